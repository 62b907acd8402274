/-! the town that the other reads: its record lies at u -/
abbrev gV (G : zG) (u : Nat) : Prop := 121 ≤ u ∧ G.2.2.2 91 4 = some u ∧ G.2.1 u = 8 ∧ G.2.2.2 u 6 = some (u + 1) ∧ G.2.2.2 u 7 = some (u + 2) ∧ G.2.2.2 u 8 = some (u + 3) ∧ G.2.2.2 u 9 = some (u + 4) ∧ G.2.2.2 u 10 = some (u + 5) ∧ G.2.2.2 u 11 = some (u + 6) ∧ G.2.2.2 u 12 = some (u + 7) ∧ G.2.2.2 u 13 = some (u + 8) ∧ G.2.2.2 u 14 = some (u + 9) ∧ G.2.2.2 u 15 = some (u + 10) ∧ G.2.1 (u + 1) = 10 ∧ G.2.1 (u + 2) = 10 ∧ G.2.1 (u + 3) = 10 ∧ G.2.1 (u + 4) = 10 ∧ G.2.1 (u + 5) = 10 ∧ G.2.1 (u + 6) = 10 ∧ G.2.1 (u + 7) = 10 ∧ G.2.1 (u + 8) = 10 ∧ G.2.1 (u + 9) = 13 ∧ G.2.1 (u + 10) = 11 ∧ G.2.2.1 (u + 1) = 3 ∧ G.2.2.1 (u + 2) = 3 ∧ G.2.2.1 (u + 3) = 3 ∧ G.2.2.1 (u + 4) = 3 ∧ G.2.2.1 (u + 5) = 4 ∧ G.2.2.1 (u + 6) = 4 ∧ G.2.2.1 (u + 7) = 4 ∧ G.2.2.1 (u + 8) = 4 ∧ G.2.2.1 (u + 9) = 4 ∧ G.2.2.1 (u + 10) = 7
/-- what has been told, in the other's record -/
def DM (tp : Nat → Int) (u : Nat) (h : zM) (D : pD) : Prop := (h u 0 = (nB D.1 : Int) ∧ h u 1 = (nS D.1 : Int) ∧ h u 2 = (nP D.1 : Int) ∧ (∀ i, i < nB D.1 → h (u + 1) i = tr D.1 0 i) ∧ (∀ i, i < nB D.1 → h (u + 2) i = tr D.1 1 i) ∧ (∀ i, i < nB D.1 → h (u + 3) i = tr D.1 2 i) ∧ (∀ i, i < nP D.1 → h (u + 4) i = tr D.1 8 i) ∧ (∀ i, i < nS D.1 → h (u + 5) i = tr D.1 3 i) ∧ (∀ i, i < nS D.1 → h (u + 6) i = tr D.1 4 i) ∧ (∀ i, i < nS D.1 → h (u + 7) i = tr D.1 5 i) ∧ (∀ i, i < nS D.1 → h (u + 8) i = tr D.1 6 i) ∧ (∀ i, i < nS D.1 → h (u + 9) i = tr D.1 7 i)) ∧ (0 < nP D.1 → h u 5 = tw D.1) ∧ h u 3 = (if D.2.2 = 0 then -1 else kp D.1) ∧ h u 4 = (D.2.1.length : Int) ∧ (∀ (i : Nat) (p : Nat × Nat), D.2.1[i]? = some p → h (u + 10) i = wcd tp p.1 p.2)
def fm (u : Nat) (h h' : zM) : Prop := ∀ c i, ¬ (c = 91 ∧ 8 ≤ i ∧ i ≤ 15) → c < u → h' c i = h c i
theorem fm.tr {u : Nat} {h h1 h2 : zM} (a : fm u h h1) (b : fm u h1 h2) : fm u h h2 := fun c i q1 q2 => (b c i q1 q2).trans (a c i q1 q2)
theorem mfm.fm {u : Nat} {h h' : zM} (a : mfm h h') : fm u h h' := fun c i z _ => a c i z
theorem DM_fr {tp : Nat → Int} {u : Nat} {h h' : zM} {D : pD} (k : DM tp u h D) (f : ∀ c i, u ≤ c → h' c i = h c i) : DM tp u h' D := by
  unfold DM at k ⊢
  simp only [f u _ (Nat.le_refl u), f (u + 1) _ (Nat.le_add_right u _), f (u + 2) _ (Nat.le_add_right u _), f (u + 3) _ (Nat.le_add_right u _), f (u + 4) _ (Nat.le_add_right u _), f (u + 5) _ (Nat.le_add_right u _), f (u + 6) _ (Nat.le_add_right u _), f (u + 7) _ (Nat.le_add_right u _), f (u + 8) _ (Nat.le_add_right u _), f (u + 9) _ (Nat.le_add_right u _), f (u + 10) _ (Nat.le_add_right u _)]
  exact k
section MN
variable {d : Nat} {Q : zQ} {G : zG} {h : zM} {n q u : Nat} {tp : Nat → Int}
theorem m_isTold (hg : gS G) (hv : gV G u) {L : Nat} {w : Int} (h4 : h u 4 = (L : Int)) (hL : L ≤ 7) (K : ∀ v : Int, (v = 1 ∧ (∃ i, i < L ∧ h (u + 10) i = w) ∨ v = 0 ∧ ¬ (∃ i, i < L ∧ h (u + 10) i = w)) → Q (some (zI v)) G h) : zRunD ztb zmt' (d + 1) 111 [zR (some u), zL w] G h Q := by
  rw [r111]
  have lp : ∀ j i, i + j = L → (∀ i', i' < i → ¬ h (u + 10) i' = w) → zE 111 d Q 2 [some (zR (some u)), some (zL w), none, some (zI i)] [] G h (0, 0) := by
    intro j
    induction j with
    | zero =>
      intro i hi m
      have c : (L : Int) ≤ i := by omega
      have kk := K 0 (Or.inr ⟨rfl, fun ⟨i', z1, z2⟩ => m i' (by omega) z2⟩)
      rw [e111_2]
      simp only [e111_3, e111_4, e111_7, e111_10, e111_11, e111_14, e111_15, e111_16, e111_17, e111_18, e111_21, e111_22, e111_23, e111_26, e111_29, e111_30, zs0, zsI, zsL, zsR, ztl1, ztl0, zc0, zcI, zcL, zcR, true_and, and_true, true_implies, false_implies, implies_true, not_true_eq_false, not_false_eq_true, and_self, Int.toNat_natCast, Nat.reduceAdd, Nat.reduceLeDiff, Nat.reduceLT, forall_eq', Option.some.injEq, zarR, zarI, zarL, zle, zq0, zq1, zq2, zq3, zq4, zq5, zq6, zq8, zq9, zq10, zq20, zq7, zq12, zq24, zq40, zq41, zq48, zq100, zq120, zq123, zq480, zq492, zq700, zq729, zq2187, zq2916, zq8748, ne_eq, Int.reduceEq, Int.reduceLT, Int.reduceLE, Int.reduceToNat, Int.reduceMul, Int.reduceAdd, Int.reduceNeg, hv, h4, c, true_or, or_true]
      exact kk
    | succ j ih =>
      intro i hi m
      have c : ¬ (L : Int) ≤ i := by omega
      have c7 : (i : Int) < 7 := by omega
      rw [e111_2]
      by_cases z : h (u + 10) i = w
      · have kk := K 1 (Or.inl ⟨rfl, i, by omega, z⟩)
        simp only [e111_3, e111_4, e111_7, e111_10, e111_11, e111_14, e111_15, e111_16, e111_17, e111_18, e111_21, e111_22, e111_23, e111_26, e111_29, e111_30, zs0, zsI, zsL, zsR, ztl1, ztl0, zc0, zcI, zcL, zcR, true_and, and_true, true_implies, false_implies, implies_true, not_true_eq_false, not_false_eq_true, and_self, Int.toNat_natCast, Nat.reduceAdd, Nat.reduceLeDiff, Nat.reduceLT, forall_eq', Option.some.injEq, zarR, zarI, zarL, zle, zq0, zq1, zq2, zq3, zq4, zq5, zq6, zq8, zq9, zq10, zq20, zq7, zq12, zq24, zq40, zq41, zq48, zq100, zq120, zq123, zq480, zq492, zq700, zq729, zq2187, zq2916, zq8748, ne_eq, Int.reduceEq, Int.reduceLT, Int.reduceLE, Int.reduceToNat, Int.reduceMul, Int.reduceAdd, Int.reduceNeg, hv, h4, c, c7, zlc_eq, z, true_or, or_true]
        exact kk
      · simp only [e111_3, e111_4, e111_7, e111_10, e111_11, e111_14, e111_15, e111_16, e111_17, e111_18, e111_21, e111_22, e111_23, e111_26, e111_29, e111_30, zs0, zsI, zsL, zsR, ztl1, ztl0, zc0, zcI, zcL, zcR, true_and, and_true, true_implies, false_implies, implies_true, not_true_eq_false, not_false_eq_true, and_self, Int.toNat_natCast, Nat.reduceAdd, Nat.reduceLeDiff, Nat.reduceLT, forall_eq', Option.some.injEq, zarR, zarI, zarL, zle, zq0, zq1, zq2, zq3, zq4, zq5, zq6, zq8, zq9, zq10, zq20, zq7, zq12, zq24, zq40, zq41, zq48, zq100, zq120, zq123, zq480, zq492, zq700, zq729, zq2187, zq2916, zq8748, ne_eq, Int.reduceEq, Int.reduceLT, Int.reduceLE, Int.reduceToNat, Int.reduceMul, Int.reduceAdd, Int.reduceNeg, hv, h4, c, c7, zlc_eq, z, wr_s (show i < 2147483647 by omega)]
        apply ih (i + 1) (by omega)
        intro i' hi'
        by_cases y : i' = i
        · rw [y]; exact z
        · exact m i' (by omega)
  have l0 := lp L 0 (by omega) (fun i' z => by omega)
  rw [zq0] at l0
  simp only [e111_0, e111_1, zs0, zsI, zsL, zsR, ztl1, ztl0, zc0, zcI, zcL, zcR, true_and, and_true, true_implies, false_implies, implies_true, not_true_eq_false, not_false_eq_true, and_self, Int.toNat_natCast, Nat.reduceAdd, Nat.reduceLeDiff, Nat.reduceLT, forall_eq', Option.some.injEq, zarR, zarI, zarL, zle, zq0, zq1, zq2, zq3, zq4, zq5, zq6, zq8, zq9, zq10, zq20, zq7, zq12, zq24, zq40, zq41, zq48, zq100, zq120, zq123, zq480, zq492, zq700, zq729, zq2187, zq2916, zq8748, ne_eq, Int.reduceEq, Int.reduceLT, Int.reduceLE, Int.reduceToNat, Int.reduceMul, Int.reduceAdd, Int.reduceNeg]
  exact l0
theorem told_iff {D : pD} (k : DM tp u h D) {w : Int} : (∃ i, i < D.2.1.length ∧ h (u + 10) i = w) ↔ toldB tp D.2.1 w = true := by
  rw [toldB_iff]
  constructor
  · rintro ⟨i, hi, e⟩
    refine ⟨i, D.2.1[i], List.getElem?_eq_getElem hi, ?_⟩
    rw [← k.2.2.2.2 i _ (List.getElem?_eq_getElem hi)]
    exact e
  · rintro ⟨i, p, e1, e2⟩
    have hi : i < D.2.1.length := by
      rcases Nat.lt_or_ge i D.2.1.length with z | z
      · exact z
      · rw [List.getElem?_eq_none z] at e1; cases e1
    refine ⟨i, hi, ?_⟩
    rw [k.2.2.2.2 i p e1]
    exact e2
/-- a dead reader at the name: nothing more -/
theorem m_namedDead (hg : gS G) (hv : gV G u) {e : pE} {b : Int} {L : Nat} (c : MS tp n (.inl e) h) (h4 : h u 4 = (L : Int)) (hL : L ≤ 7) (K : Q none G h) : zE 134 (d + 2) Q 62 [some (zR (some 91)), some (zI b)] [] G h (0, 0) := by
  have h9 := c.2.1
  have w := fun Q' => m_wrong' (d := d) (Q := Q') (h := h) (a := 3) hg h9
  simp only [e134_62, e134_63, e134_66, e134_67, e134_70, zs0, zsI, zsL, zsR, ztl1, ztl0, zc0, zcI, zcL, zcR, true_and, and_true, true_implies, false_implies, implies_true, not_true_eq_false, not_false_eq_true, and_self, Int.toNat_natCast, Nat.reduceAdd, Nat.reduceLeDiff, Nat.reduceLT, forall_eq', Option.some.injEq, zarR, zarI, zarL, zle, zq0, zq1, zq2, zq3, zq4, zq5, zq6, zq8, zq9, zq10, zq20, zq7, zq12, zq24, zq40, zq41, zq48, zq100, zq120, zq123, zq480, zq492, zq700, zq729, zq2187, zq2916, zq8748, ne_eq, Int.reduceEq, Int.reduceLT, Int.reduceLE, Int.reduceToNat, Int.reduceMul, Int.reduceAdd, Int.reduceNeg, gk91 hg, gr91_5 hg, gr91_22 hg, gr91_23 hg, gr91_24 hg, gr91_25 hg, gr91_26 hg, gr91_27 hg, gr91_28 hg, gr91_29 hg, gr91_32 hg, gr91_33 hg, gr91_34 hg, gr91_35 hg, gr91_36 hg, gr91_37 hg, gr91_38 hg, gr91_39 hg, gr91_40 hg, gr91_41 hg, gr91_42 hg, gr91_44 hg, gr91_45 hg, gr91_46 hg, gr91_48 hg, gr91_49 hg, gr91_50 hg, gr91_51 hg, gr91_52 hg, hv]
  apply m_isTold (d := d + 1) hg hv h4 hL
  intro v z
  rcases z with ⟨z, -⟩ | ⟨z, -⟩
  · subst z
    simp only [e134_73, e134_76, e134_77, e134_78, e134_81, e134_82, e134_85, e134_86, e134_89, zs0, zsI, zsL, zsR, ztl1, ztl0, zc0, zcI, zcL, zcR, true_and, and_true, true_implies, false_implies, implies_true, not_true_eq_false, not_false_eq_true, and_self, Int.toNat_natCast, Nat.reduceAdd, Nat.reduceLeDiff, Nat.reduceLT, forall_eq', Option.some.injEq, zarR, zarI, zarL, zle, zq0, zq1, zq2, zq3, zq4, zq5, zq6, zq8, zq9, zq10, zq20, zq7, zq12, zq24, zq40, zq41, zq48, zq100, zq120, zq123, zq480, zq492, zq700, zq729, zq2187, zq2916, zq8748, ne_eq, Int.reduceEq, Int.reduceLT, Int.reduceLE, Int.reduceToNat, Int.reduceMul, Int.reduceAdd, Int.reduceNeg, gk91 hg, gr91_5 hg, gr91_22 hg, gr91_23 hg, gr91_24 hg, gr91_25 hg, gr91_26 hg, gr91_27 hg, gr91_28 hg, gr91_29 hg, gr91_32 hg, gr91_33 hg, gr91_34 hg, gr91_35 hg, gr91_36 hg, gr91_37 hg, gr91_38 hg, gr91_39 hg, gr91_40 hg, gr91_41 hg, gr91_42 hg, gr91_44 hg, gr91_45 hg, gr91_46 hg, gr91_48 hg, gr91_49 hg, gr91_50 hg, gr91_51 hg, gr91_52 hg, w, h9]
    exact K
  · subst z
    simp only [e134_73, e134_76, e134_77, e134_78, e134_81, e134_82, e134_85, e134_86, e134_89, zs0, zsI, zsL, zsR, ztl1, ztl0, zc0, zcI, zcL, zcR, true_and, and_true, true_implies, false_implies, implies_true, not_true_eq_false, not_false_eq_true, and_self, Int.toNat_natCast, Nat.reduceAdd, Nat.reduceLeDiff, Nat.reduceLT, forall_eq', Option.some.injEq, zarR, zarI, zarL, zle, zq0, zq1, zq2, zq3, zq4, zq5, zq6, zq8, zq9, zq10, zq20, zq7, zq12, zq24, zq40, zq41, zq48, zq100, zq120, zq123, zq480, zq492, zq700, zq729, zq2187, zq2916, zq8748, ne_eq, Int.reduceEq, Int.reduceLT, Int.reduceLE, Int.reduceToNat, Int.reduceMul, Int.reduceAdd, Int.reduceNeg, gk91 hg, gr91_5 hg, gr91_22 hg, gr91_23 hg, gr91_24 hg, gr91_25 hg, gr91_26 hg, gr91_27 hg, gr91_28 hg, gr91_29 hg, gr91_32 hg, gr91_33 hg, gr91_34 hg, gr91_35 hg, gr91_36 hg, gr91_37 hg, gr91_38 hg, gr91_39 hg, gr91_40 hg, gr91_41 hg, gr91_42 hg, gr91_44 hg, gr91_45 hg, gr91_46 hg, gr91_48 hg, gr91_49 hg, gr91_50 hg, gr91_51 hg, gr91_52 hg, h9]
    exact K
def pNd (tp : Nat → Int) (n : Nat) (full : Nat) (ns : List (Nat × Nat)) (q : Nat) : pE ⊕ Nat := if full = 1 then .inl (5, (st tp n q : Nat)) else pNm tp n ns (nxt tp n q)
theorem m_readNamed (hg : gS G) (hv : gV G u) {D : pD} {b : Nat} (c : MS tp n (.inr q) h) (hk : ¬ kd tp n q = 5) (k : DM tp u h D) (hb : b = 0 ∧ D.2.1.length < 7 ∨ b = 1 ∧ D.2.1.length ≤ 7) (K : ∀ h' : zM, (∀ c i, ¬ (c = 91 ∧ 8 ≤ i ∧ i ≤ 15) → ¬ (c = u ∧ i = 4) → ¬ c = u + 10 → h' c i = h c i) → MS tp n (pNd tp n b D.2.1 q) h' → (∀ q', pNd tp n b D.2.1 q = .inr q' → h' u 4 = ((D.2.1.length + 1 : Nat) : Int) ∧ (∀ (i : Nat) (p : Nat × Nat), (D.2.1 ++ [(st tp n (nxt tp n q), rn tp n (nxt tp n q) - st tp n (nxt tp n q))])[i]? = some p → h' (u + 10) i = wcd tp p.1 p.2)) → Q none G h') : zRunD ztb zmt' (d + 3) 134 [zR (some 91), zI b] G h Q := by
  rw [r134]
  have h4 := k.2.2.2.1
  have u121 : 121 ≤ u := hv.1
  have L7 : D.2.1.length ≤ 7 := by omega
  unfold pNd at K
  have die : ∀ (h1 : zM) (q1 : Nat) (a : Int), 0 < a → mfm h h1 → MS tp n (.inr q1) h1 → (if b = 1 then (.inl (5, (st tp n q : Nat)) : pE ⊕ Nat) else pNm tp n D.2.1 (nxt tp n q)) = .inl (a, (st tp n q1 : Nat)) → ∀ B : Int, zE 134 (d + 2) Q 62 [some (zR (some 91)), some (zI B)] [] G (zu (zu (zu h1 91 13 a) 91 14 (h1 91 10)) 91 9 5) (0, 0) := by
    intro h1 q1 a ha f1 c1 e B
    rw [e] at K
    have c2 := MS_die c1 (b := h1 91 10) ha
    rw [c1.2.2.2.2.1] at c2 ⊢
    apply m_namedDead hg hv c2 (L := D.2.1.length) (by rw [zu_c (by omega), zu_c (by omega), zu_c (by omega), f1 _ _ (by omega), h4]) L7
    exact K _ (fun c i z _ _ => by rw [zu, if_neg (by omega), zu, if_neg (by omega), zu, if_neg (by omega)]; exact f1 c i z) c2 (fun q' z => by cases z)
  by_cases b1 : b = 1
  · subst b1
    have e5 : (if (1 : Nat) = 1 then (.inl (5, (st tp n q : Nat)) : pE ⊕ Nat) else pNm tp n D.2.1 (nxt tp n q)) = .inl (5, (st tp n q : Nat)) := if_pos rfl
    have w := fun Q' => m_wrong (d := d) (Q := Q') (h := h) (a := 5) hg (MS_9 c)
    have dd := die h q 5 (by decide) mfm.rf c e5
    have c2 := MS_die c (a := 5) (b := h 91 10) (by decide)
    generalize zu (zu (zu h 91 13 5) 91 14 (h 91 10)) 91 9 5 = h2 at w dd c2
    have h9 := c2.2.1
    have w2 := fun Q' => m_wrong' (d := d) (Q := Q') (h := h2) (a := 1) hg h9
    simp only [e134_0, e134_1, e134_4, e134_5, e134_6, e134_9, e134_10, zs0, zsI, zsL, zsR, ztl1, ztl0, zc0, zcI, zcL, zcR, true_and, and_true, true_implies, false_implies, implies_true, not_true_eq_false, not_false_eq_true, and_self, Int.toNat_natCast, Nat.reduceAdd, Nat.reduceLeDiff, Nat.reduceLT, forall_eq', Option.some.injEq, zarR, zarI, zarL, zle, zq0, zq1, zq2, zq3, zq4, zq5, zq6, zq8, zq9, zq10, zq20, zq7, zq12, zq24, zq40, zq41, zq48, zq100, zq120, zq123, zq480, zq492, zq700, zq729, zq2187, zq2916, zq8748, ne_eq, Int.reduceEq, Int.reduceLT, Int.reduceLE, Int.reduceToNat, Int.reduceMul, Int.reduceAdd, Int.reduceNeg, gk91 hg, gr91_5 hg, gr91_22 hg, gr91_23 hg, gr91_24 hg, gr91_25 hg, gr91_26 hg, gr91_27 hg, gr91_28 hg, gr91_29 hg, gr91_32 hg, gr91_33 hg, gr91_34 hg, gr91_35 hg, gr91_36 hg, gr91_37 hg, gr91_38 hg, gr91_39 hg, gr91_40 hg, gr91_41 hg, gr91_42 hg, gr91_44 hg, gr91_45 hg, gr91_46 hg, gr91_48 hg, gr91_49 hg, gr91_50 hg, gr91_51 hg, gr91_52 hg, w]
    apply m_go (d := d) hg c2 (fun q z => by cases z)
    intro h3 _ e3 _
    have := e3 _ rfl
    subst this
    simp only [e134_13, e134_14, e134_17, e134_18, e134_57, e134_58, e134_59, zs0, zsI, zsL, zsR, ztl1, ztl0, zc0, zcI, zcL, zcR, true_and, and_true, true_implies, false_implies, implies_true, not_true_eq_false, not_false_eq_true, and_self, Int.toNat_natCast, Nat.reduceAdd, Nat.reduceLeDiff, Nat.reduceLT, forall_eq', Option.some.injEq, zarR, zarI, zarL, zle, zq0, zq1, zq2, zq3, zq4, zq5, zq6, zq8, zq9, zq10, zq20, zq7, zq12, zq24, zq40, zq41, zq48, zq100, zq120, zq123, zq480, zq492, zq700, zq729, zq2187, zq2916, zq8748, ne_eq, Int.reduceEq, Int.reduceLT, Int.reduceLE, Int.reduceToNat, Int.reduceMul, Int.reduceAdd, Int.reduceNeg, gk91 hg, gr91_5 hg, gr91_22 hg, gr91_23 hg, gr91_24 hg, gr91_25 hg, gr91_26 hg, gr91_27 hg, gr91_28 hg, gr91_29 hg, gr91_32 hg, gr91_33 hg, gr91_34 hg, gr91_35 hg, gr91_36 hg, gr91_37 hg, gr91_38 hg, gr91_39 hg, gr91_40 hg, gr91_41 hg, gr91_42 hg, gr91_44 hg, gr91_45 hg, gr91_46 hg, gr91_48 hg, gr91_49 hg, gr91_50 hg, gr91_51 hg, gr91_52 hg, h9, w2]
    exact dd 1
  · have b0 : b = 0 := by omega
    subst b0
    simp only [e134_0, e134_1, e134_4, e134_5, e134_6, e134_9, e134_10, zs0, zsI, zsL, zsR, ztl1, ztl0, zc0, zcI, zcL, zcR, true_and, and_true, true_implies, false_implies, implies_true, not_true_eq_false, not_false_eq_true, and_self, Int.toNat_natCast, Nat.reduceAdd, Nat.reduceLeDiff, Nat.reduceLT, forall_eq', Option.some.injEq, zarR, zarI, zarL, zle, zq0, zq1, zq2, zq3, zq4, zq5, zq6, zq8, zq9, zq10, zq20, zq7, zq12, zq24, zq40, zq41, zq48, zq100, zq120, zq123, zq480, zq492, zq700, zq729, zq2187, zq2916, zq8748, ne_eq, Int.reduceEq, Int.reduceLT, Int.reduceLE, Int.reduceToNat, Int.reduceMul, Int.reduceAdd, Int.reduceNeg, gk91 hg, gr91_5 hg, gr91_22 hg, gr91_23 hg, gr91_24 hg, gr91_25 hg, gr91_26 hg, gr91_27 hg, gr91_28 hg, gr91_29 hg, gr91_32 hg, gr91_33 hg, gr91_34 hg, gr91_35 hg, gr91_36 hg, gr91_37 hg, gr91_38 hg, gr91_39 hg, gr91_40 hg, gr91_41 hg, gr91_42 hg, gr91_44 hg, gr91_45 hg, gr91_46 hg, gr91_48 hg, gr91_49 hg, gr91_50 hg, gr91_51 hg, gr91_52 hg]
    apply m_go (d := d) hg c (fun q' z => by cases z; exact hk)
    intro h1 f1 _ c1
    dsimp only [sP] at c1
    have t1 := c1.2.2
    generalize hq1 : nxt tp n q = q1 at c1 t1 die K
    have wr1 := fun Q' => m_wrong (d := d) (Q := Q') (h := h1) (a := 1) hg (MS_9 c1)
    rw [if_neg b1] at die K
    have bad : (¬ kd tp n q1 = 1 ∨ (wd tp n q1 = kwc 0 ∨ wd tp n q1 = kwc 1 ∨ wd tp n q1 = kwc 2 ∨ wd tp n q1 = kwc 3)) → zE 134 (d + 2) Q 57 [some (zR (some 91)), some (zI 0)] [] G h1 (0, 0) := by
      intro z
      simp only [e134_57, e134_58, e134_59, zs0, zsI, zsL, zsR, ztl1, ztl0, zc0, zcI, zcL, zcR, true_and, and_true, true_implies, false_implies, implies_true, not_true_eq_false, not_false_eq_true, and_self, Int.toNat_natCast, Nat.reduceAdd, Nat.reduceLeDiff, Nat.reduceLT, forall_eq', Option.some.injEq, zarR, zarI, zarL, zle, zq0, zq1, zq2, zq3, zq4, zq5, zq6, zq8, zq9, zq10, zq20, zq7, zq12, zq24, zq40, zq41, zq48, zq100, zq120, zq123, zq480, zq492, zq700, zq729, zq2187, zq2916, zq8748, ne_eq, Int.reduceEq, Int.reduceLT, Int.reduceLE, Int.reduceToNat, Int.reduceMul, Int.reduceAdd, Int.reduceNeg, gk91 hg, gr91_5 hg, gr91_22 hg, gr91_23 hg, gr91_24 hg, gr91_25 hg, gr91_26 hg, gr91_27 hg, gr91_28 hg, gr91_29 hg, gr91_32 hg, gr91_33 hg, gr91_34 hg, gr91_35 hg, gr91_36 hg, gr91_37 hg, gr91_38 hg, gr91_39 hg, gr91_40 hg, gr91_41 hg, gr91_42 hg, gr91_44 hg, gr91_45 hg, gr91_46 hg, gr91_48 hg, gr91_49 hg, gr91_50 hg, gr91_51 hg, gr91_52 hg, wr1]
      apply die h1 q1 1 (by decide) f1 c1
      unfold pNm
      rw [if_pos z]
    by_cases k1 : kd tp n q1 = 1
    · have h9 : h1 91 9 = 2 := by rw [t1.2.1, k1]; rfl
      simp only [e134_13, e134_14, e134_17, e134_18, e134_21, e134_22, e134_24, zs0, zsI, zsL, zsR, ztl1, ztl0, zc0, zcI, zcL, zcR, true_and, and_true, true_implies, false_implies, implies_true, not_true_eq_false, not_false_eq_true, and_self, Int.toNat_natCast, Nat.reduceAdd, Nat.reduceLeDiff, Nat.reduceLT, forall_eq', Option.some.injEq, zarR, zarI, zarL, zle, zq0, zq1, zq2, zq3, zq4, zq5, zq6, zq8, zq9, zq10, zq20, zq7, zq12, zq24, zq40, zq41, zq48, zq100, zq120, zq123, zq480, zq492, zq700, zq729, zq2187, zq2916, zq8748, ne_eq, Int.reduceEq, Int.reduceLT, Int.reduceLE, Int.reduceToNat, Int.reduceMul, Int.reduceAdd, Int.reduceNeg, gk91 hg, gr91_5 hg, gr91_22 hg, gr91_23 hg, gr91_24 hg, gr91_25 hg, gr91_26 hg, gr91_27 hg, gr91_28 hg, gr91_29 hg, gr91_32 hg, gr91_33 hg, gr91_34 hg, gr91_35 hg, gr91_36 hg, gr91_37 hg, gr91_38 hg, gr91_39 hg, gr91_40 hg, gr91_41 hg, gr91_42 hg, gr91_44 hg, gr91_45 hg, gr91_46 hg, gr91_48 hg, gr91_49 hg, gr91_50 hg, gr91_51 hg, gr91_52 hg, h9]
      apply m_isWord (d := d) (id := 0) hg (by decide) c1
      intro v0 z0 _
      rcases z0 q1 rfl with ⟨z, w⟩ | ⟨z, w0⟩
      · subst z
        simp only [e134_27, zs0, zsI, zsL, zsR, ztl1, ztl0, zc0, zcI, zcL, zcR, true_and, and_true, true_implies, false_implies, implies_true, not_true_eq_false, not_false_eq_true, and_self, Int.toNat_natCast, Nat.reduceAdd, Nat.reduceLeDiff, Nat.reduceLT, forall_eq', Option.some.injEq, zarR, zarI, zarL, zle, zq0, zq1, zq2, zq3, zq4, zq5, zq6, zq8, zq9, zq10, zq20, zq7, zq12, zq24, zq40, zq41, zq48, zq100, zq120, zq123, zq480, zq492, zq700, zq729, zq2187, zq2916, zq8748, ne_eq, Int.reduceEq, Int.reduceLT, Int.reduceLE, Int.reduceToNat, Int.reduceMul, Int.reduceAdd, Int.reduceNeg]
        exact bad (Or.inr (Or.inl w.2))
      subst z
      simp only [e134_27, e134_30, e134_31, e134_33, zs0, zsI, zsL, zsR, ztl1, ztl0, zc0, zcI, zcL, zcR, true_and, and_true, true_implies, false_implies, implies_true, not_true_eq_false, not_false_eq_true, and_self, Int.toNat_natCast, Nat.reduceAdd, Nat.reduceLeDiff, Nat.reduceLT, forall_eq', Option.some.injEq, zarR, zarI, zarL, zle, zq0, zq1, zq2, zq3, zq4, zq5, zq6, zq8, zq9, zq10, zq20, zq7, zq12, zq24, zq40, zq41, zq48, zq100, zq120, zq123, zq480, zq492, zq700, zq729, zq2187, zq2916, zq8748, ne_eq, Int.reduceEq, Int.reduceLT, Int.reduceLE, Int.reduceToNat, Int.reduceMul, Int.reduceAdd, Int.reduceNeg, gk91 hg, gr91_5 hg, gr91_22 hg, gr91_23 hg, gr91_24 hg, gr91_25 hg, gr91_26 hg, gr91_27 hg, gr91_28 hg, gr91_29 hg, gr91_32 hg, gr91_33 hg, gr91_34 hg, gr91_35 hg, gr91_36 hg, gr91_37 hg, gr91_38 hg, gr91_39 hg, gr91_40 hg, gr91_41 hg, gr91_42 hg, gr91_44 hg, gr91_45 hg, gr91_46 hg, gr91_48 hg, gr91_49 hg, gr91_50 hg, gr91_51 hg, gr91_52 hg]
      apply m_isWord (d := d) (id := 1) hg (by decide) c1
      intro v1 z1 _
      rcases z1 q1 rfl with ⟨z, w⟩ | ⟨z, w1⟩
      · subst z
        simp only [e134_36, zs0, zsI, zsL, zsR, ztl1, ztl0, zc0, zcI, zcL, zcR, true_and, and_true, true_implies, false_implies, implies_true, not_true_eq_false, not_false_eq_true, and_self, Int.toNat_natCast, Nat.reduceAdd, Nat.reduceLeDiff, Nat.reduceLT, forall_eq', Option.some.injEq, zarR, zarI, zarL, zle, zq0, zq1, zq2, zq3, zq4, zq5, zq6, zq8, zq9, zq10, zq20, zq7, zq12, zq24, zq40, zq41, zq48, zq100, zq120, zq123, zq480, zq492, zq700, zq729, zq2187, zq2916, zq8748, ne_eq, Int.reduceEq, Int.reduceLT, Int.reduceLE, Int.reduceToNat, Int.reduceMul, Int.reduceAdd, Int.reduceNeg]
        exact bad (Or.inr (Or.inr (Or.inl w.2)))
      subst z
      simp only [e134_36, e134_39, e134_40, e134_42, zs0, zsI, zsL, zsR, ztl1, ztl0, zc0, zcI, zcL, zcR, true_and, and_true, true_implies, false_implies, implies_true, not_true_eq_false, not_false_eq_true, and_self, Int.toNat_natCast, Nat.reduceAdd, Nat.reduceLeDiff, Nat.reduceLT, forall_eq', Option.some.injEq, zarR, zarI, zarL, zle, zq0, zq1, zq2, zq3, zq4, zq5, zq6, zq8, zq9, zq10, zq20, zq7, zq12, zq24, zq40, zq41, zq48, zq100, zq120, zq123, zq480, zq492, zq700, zq729, zq2187, zq2916, zq8748, ne_eq, Int.reduceEq, Int.reduceLT, Int.reduceLE, Int.reduceToNat, Int.reduceMul, Int.reduceAdd, Int.reduceNeg, gk91 hg, gr91_5 hg, gr91_22 hg, gr91_23 hg, gr91_24 hg, gr91_25 hg, gr91_26 hg, gr91_27 hg, gr91_28 hg, gr91_29 hg, gr91_32 hg, gr91_33 hg, gr91_34 hg, gr91_35 hg, gr91_36 hg, gr91_37 hg, gr91_38 hg, gr91_39 hg, gr91_40 hg, gr91_41 hg, gr91_42 hg, gr91_44 hg, gr91_45 hg, gr91_46 hg, gr91_48 hg, gr91_49 hg, gr91_50 hg, gr91_51 hg, gr91_52 hg]
      apply m_isWord (d := d) (id := 2) hg (by decide) c1
      intro v2 z2 _
      rcases z2 q1 rfl with ⟨z, w⟩ | ⟨z, w2⟩
      · subst z
        simp only [e134_45, zs0, zsI, zsL, zsR, ztl1, ztl0, zc0, zcI, zcL, zcR, true_and, and_true, true_implies, false_implies, implies_true, not_true_eq_false, not_false_eq_true, and_self, Int.toNat_natCast, Nat.reduceAdd, Nat.reduceLeDiff, Nat.reduceLT, forall_eq', Option.some.injEq, zarR, zarI, zarL, zle, zq0, zq1, zq2, zq3, zq4, zq5, zq6, zq8, zq9, zq10, zq20, zq7, zq12, zq24, zq40, zq41, zq48, zq100, zq120, zq123, zq480, zq492, zq700, zq729, zq2187, zq2916, zq8748, ne_eq, Int.reduceEq, Int.reduceLT, Int.reduceLE, Int.reduceToNat, Int.reduceMul, Int.reduceAdd, Int.reduceNeg]
        exact bad (Or.inr (Or.inr (Or.inr (Or.inl w.2))))
      subst z
      simp only [e134_45, e134_48, e134_49, e134_51, zs0, zsI, zsL, zsR, ztl1, ztl0, zc0, zcI, zcL, zcR, true_and, and_true, true_implies, false_implies, implies_true, not_true_eq_false, not_false_eq_true, and_self, Int.toNat_natCast, Nat.reduceAdd, Nat.reduceLeDiff, Nat.reduceLT, forall_eq', Option.some.injEq, zarR, zarI, zarL, zle, zq0, zq1, zq2, zq3, zq4, zq5, zq6, zq8, zq9, zq10, zq20, zq7, zq12, zq24, zq40, zq41, zq48, zq100, zq120, zq123, zq480, zq492, zq700, zq729, zq2187, zq2916, zq8748, ne_eq, Int.reduceEq, Int.reduceLT, Int.reduceLE, Int.reduceToNat, Int.reduceMul, Int.reduceAdd, Int.reduceNeg, gk91 hg, gr91_5 hg, gr91_22 hg, gr91_23 hg, gr91_24 hg, gr91_25 hg, gr91_26 hg, gr91_27 hg, gr91_28 hg, gr91_29 hg, gr91_32 hg, gr91_33 hg, gr91_34 hg, gr91_35 hg, gr91_36 hg, gr91_37 hg, gr91_38 hg, gr91_39 hg, gr91_40 hg, gr91_41 hg, gr91_42 hg, gr91_44 hg, gr91_45 hg, gr91_46 hg, gr91_48 hg, gr91_49 hg, gr91_50 hg, gr91_51 hg, gr91_52 hg]
      apply m_isWord (d := d) (id := 3) hg (by decide) c1
      intro v3 z3 _
      rcases z3 q1 rfl with ⟨z, w⟩ | ⟨z, w3⟩
      · subst z
        simp only [e134_54, zs0, zsI, zsL, zsR, ztl1, ztl0, zc0, zcI, zcL, zcR, true_and, and_true, true_implies, false_implies, implies_true, not_true_eq_false, not_false_eq_true, and_self, Int.toNat_natCast, Nat.reduceAdd, Nat.reduceLeDiff, Nat.reduceLT, forall_eq', Option.some.injEq, zarR, zarI, zarL, zle, zq0, zq1, zq2, zq3, zq4, zq5, zq6, zq8, zq9, zq10, zq20, zq7, zq12, zq24, zq40, zq41, zq48, zq100, zq120, zq123, zq480, zq492, zq700, zq729, zq2187, zq2916, zq8748, ne_eq, Int.reduceEq, Int.reduceLT, Int.reduceLE, Int.reduceToNat, Int.reduceMul, Int.reduceAdd, Int.reduceNeg]
        exact bad (Or.inr (Or.inr (Or.inr (Or.inr w.2))))
      subst z
      have gd : ¬ (¬ kd tp n q1 = 1 ∨ (wd tp n q1 = kwc 0 ∨ wd tp n q1 = kwc 1 ∨ wd tp n q1 = kwc 2 ∨ wd tp n q1 = kwc 3)) := by
        intro z
        rcases z with z | z | z | z | z
        · exact z k1
        · exact w0 ⟨k1, z⟩
        · exact w1 ⟨k1, z⟩
        · exact w2 ⟨k1, z⟩
        · exact w3 ⟨k1, z⟩
      unfold pNm at K die
      rw [if_neg gd] at K die
      have h15 := t1.2.2.2.1 k1
      have k1' : DM tp u h1 D := DM_fr k (fun c i z => f1 c i (by omega))
      have h14 := k1'.2.2.2.1
      simp only [e134_54, e134_62, e134_63, e134_66, e134_67, e134_70, zs0, zsI, zsL, zsR, ztl1, ztl0, zc0, zcI, zcL, zcR, true_and, and_true, true_implies, false_implies, implies_true, not_true_eq_false, not_false_eq_true, and_self, Int.toNat_natCast, Nat.reduceAdd, Nat.reduceLeDiff, Nat.reduceLT, forall_eq', Option.some.injEq, zarR, zarI, zarL, zle, zq0, zq1, zq2, zq3, zq4, zq5, zq6, zq8, zq9, zq10, zq20, zq7, zq12, zq24, zq40, zq41, zq48, zq100, zq120, zq123, zq480, zq492, zq700, zq729, zq2187, zq2916, zq8748, ne_eq, Int.reduceEq, Int.reduceLT, Int.reduceLE, Int.reduceToNat, Int.reduceMul, Int.reduceAdd, Int.reduceNeg, gk91 hg, gr91_5 hg, gr91_22 hg, gr91_23 hg, gr91_24 hg, gr91_25 hg, gr91_26 hg, gr91_27 hg, gr91_28 hg, gr91_29 hg, gr91_32 hg, gr91_33 hg, gr91_34 hg, gr91_35 hg, gr91_36 hg, gr91_37 hg, gr91_38 hg, gr91_39 hg, gr91_40 hg, gr91_41 hg, gr91_42 hg, gr91_44 hg, gr91_45 hg, gr91_46 hg, gr91_48 hg, gr91_49 hg, gr91_50 hg, gr91_51 hg, gr91_52 hg, hv, h15]
      apply m_isTold (d := d + 1) hg hv h14 L7
      intro v4 z4
      rw [told_iff k1'] at z4
      rcases z4 with ⟨z, tl⟩ | ⟨z, tl⟩
      · subst z
        rw [if_pos tl] at die
        have dd := die h1 q1 3 (by decide) f1 c1 rfl 0
        have wr3 := fun Q' => m_wrong (d := d) (Q := Q') (h := h1) (a := 3) hg (MS_9 c1)
        rw [if_pos tl] at K
        simp only [e134_73, e134_76, e134_77, e134_78, e134_81, e134_82, e134_85, e134_86, e134_89, zs0, zsI, zsL, zsR, ztl1, ztl0, zc0, zcI, zcL, zcR, true_and, and_true, true_implies, false_implies, implies_true, not_true_eq_false, not_false_eq_true, and_self, Int.toNat_natCast, Nat.reduceAdd, Nat.reduceLeDiff, Nat.reduceLT, forall_eq', Option.some.injEq, zarR, zarI, zarL, zle, zq0, zq1, zq2, zq3, zq4, zq5, zq6, zq8, zq9, zq10, zq20, zq7, zq12, zq24, zq40, zq41, zq48, zq100, zq120, zq123, zq480, zq492, zq700, zq729, zq2187, zq2916, zq8748, ne_eq, Int.reduceEq, Int.reduceLT, Int.reduceLE, Int.reduceToNat, Int.reduceMul, Int.reduceAdd, Int.reduceNeg, gk91 hg, gr91_5 hg, gr91_22 hg, gr91_23 hg, gr91_24 hg, gr91_25 hg, gr91_26 hg, gr91_27 hg, gr91_28 hg, gr91_29 hg, gr91_32 hg, gr91_33 hg, gr91_34 hg, gr91_35 hg, gr91_36 hg, gr91_37 hg, gr91_38 hg, gr91_39 hg, gr91_40 hg, gr91_41 hg, gr91_42 hg, gr91_44 hg, gr91_45 hg, gr91_46 hg, gr91_48 hg, gr91_49 hg, gr91_50 hg, gr91_51 hg, gr91_52 hg, wr3, zu_at]
        have c2 := MS_die c1 (a := 3) (b := h1 91 10) (by decide)
        rw [c1.2.2.2.2.1] at c2 ⊢
        exact K _ (fun c i z _ _ => by rw [zu, if_neg (by omega), zu, if_neg (by omega), zu, if_neg (by omega)]; exact f1 c i z) c2 (fun q' z => by cases z)
      · subst z
        rw [if_neg tl] at K
        have n5 : ¬ h1 91 9 = 5 := by rw [h9]; decide
        have l7 : ((D.2.1.length : Nat) : Int) < 7 := by omega
        have e4 : ∀ x, zu h1 (u + 10) D.2.1.length x u 4 = ((D.2.1.length : Nat) : Int) := fun x => by rw [zu_c (by omega), h14]
        simp only [e134_73, e134_76, e134_77, e134_78, e134_81, e134_82, e134_85, e134_86, e134_89, e134_90, e134_91, e134_94, e134_97, e134_98, e134_101, e134_104, e134_105, e134_108, e134_109, e134_110, e134_113, e134_114, e134_117, e134_118, e134_119, zs0, zsI, zsL, zsR, ztl1, ztl0, zc0, zcI, zcL, zcR, true_and, and_true, true_implies, false_implies, implies_true, not_true_eq_false, not_false_eq_true, and_self, Int.toNat_natCast, Nat.reduceAdd, Nat.reduceLeDiff, Nat.reduceLT, forall_eq', Option.some.injEq, zarR, zarI, zarL, zle, zq0, zq1, zq2, zq3, zq4, zq5, zq6, zq8, zq9, zq10, zq20, zq7, zq12, zq24, zq40, zq41, zq48, zq100, zq120, zq123, zq480, zq492, zq700, zq729, zq2187, zq2916, zq8748, ne_eq, Int.reduceEq, Int.reduceLT, Int.reduceLE, Int.reduceToNat, Int.reduceMul, Int.reduceAdd, Int.reduceNeg, gk91 hg, gr91_5 hg, gr91_22 hg, gr91_23 hg, gr91_24 hg, gr91_25 hg, gr91_26 hg, gr91_27 hg, gr91_28 hg, gr91_29 hg, gr91_32 hg, gr91_33 hg, gr91_34 hg, gr91_35 hg, gr91_36 hg, gr91_37 hg, gr91_38 hg, gr91_39 hg, gr91_40 hg, gr91_41 hg, gr91_42 hg, gr91_44 hg, gr91_45 hg, gr91_46 hg, gr91_48 hg, gr91_49 hg, gr91_50 hg, gr91_51 hg, gr91_52 hg, hv, n5, h14, h15, l7, e4, wr_s (show D.2.1.length < 2147483647 by omega)]
        obtain ⟨h2, e2⟩ : ∃ z, z = zu (zu h1 (u + 10) D.2.1.length (wd tp n q1)) u 4 ((D.2.1.length + 1 : Nat) : Int) := ⟨_, rfl⟩
        rw [← e2]
        have f2 : ∀ c i, ¬ (c = u ∧ i = 4) → ¬ (c = u + 10 ∧ i = D.2.1.length) → h2 c i = h1 c i := fun c i z1 z2 => by rw [e2, zu, if_neg z1, zu, if_neg z2]
        have c2 : MS tp n (.inr q1) h2 := MS_fr c1 (fun i _ _ => f2 _ _ (by omega) (by omega)) (fun i => f2 _ _ (by omega) (by omega))
        simp only [e134_122, e134_123, zs0, zsI, zsL, zsR, ztl1, ztl0, zc0, zcI, zcL, zcR, true_and, and_true, true_implies, false_implies, implies_true, not_true_eq_false, not_false_eq_true, and_self, Int.toNat_natCast, Nat.reduceAdd, Nat.reduceLeDiff, Nat.reduceLT, forall_eq', Option.some.injEq, zarR, zarI, zarL, zle, zq0, zq1, zq2, zq3, zq4, zq5, zq6, zq8, zq9, zq10, zq20, zq7, zq12, zq24, zq40, zq41, zq48, zq100, zq120, zq123, zq480, zq492, zq700, zq729, zq2187, zq2916, zq8748, ne_eq, Int.reduceEq, Int.reduceLT, Int.reduceLE, Int.reduceToNat, Int.reduceMul, Int.reduceAdd, Int.reduceNeg, gk91 hg, gr91_5 hg, gr91_22 hg, gr91_23 hg, gr91_24 hg, gr91_25 hg, gr91_26 hg, gr91_27 hg, gr91_28 hg, gr91_29 hg, gr91_32 hg, gr91_33 hg, gr91_34 hg, gr91_35 hg, gr91_36 hg, gr91_37 hg, gr91_38 hg, gr91_39 hg, gr91_40 hg, gr91_41 hg, gr91_42 hg, gr91_44 hg, gr91_45 hg, gr91_46 hg, gr91_48 hg, gr91_49 hg, gr91_50 hg, gr91_51 hg, gr91_52 hg]
        apply m_go (d := d) hg c2 (fun q' z => by cases z; omega)
        intro h3 f3 _ c3
        simp only [e134_126, zs0, zsI, zsL, zsR, ztl1, ztl0, zc0, zcI, zcL, zcR, true_and, and_true, true_implies, false_implies, implies_true, not_true_eq_false, not_false_eq_true, and_self, Int.toNat_natCast, Nat.reduceAdd, Nat.reduceLeDiff, Nat.reduceLT, forall_eq', Option.some.injEq, zarR, zarI, zarL, zle, zq0, zq1, zq2, zq3, zq4, zq5, zq6, zq8, zq9, zq10, zq20, zq7, zq12, zq24, zq40, zq41, zq48, zq100, zq120, zq123, zq480, zq492, zq700, zq729, zq2187, zq2916, zq8748, ne_eq, Int.reduceEq, Int.reduceLT, Int.reduceLE, Int.reduceToNat, Int.reduceMul, Int.reduceAdd, Int.reduceNeg]
        apply K h3 (fun c i z1 z2 z3 => by rw [f3 c i z1, f2 c i z2 (by omega)]; exact f1 c i z1) c3
        intro q' _
        refine ⟨by rw [f3 _ _ (by omega), e2, zu_at], fun i p hp => ?_⟩
        by_cases il : i < D.2.1.length
        · rw [List.getElem?_append_left il] at hp
          rw [f3 _ _ (by omega), f2 _ _ (by omega) (by omega)]
          exact k1'.2.2.2.2 i p hp
        · rw [List.getElem?_append_right (by omega)] at hp
          have i0 : i = D.2.1.length := by
            rcases Nat.lt_or_ge 0 (i - D.2.1.length) with z | z
            · rw [List.getElem?_eq_none (by simp; omega)] at hp; cases hp
            · omega
          rw [i0, Nat.sub_self] at hp
          have hp' : (st tp n q1, rn tp n q1 - st tp n q1) = p := by simpa using hp
          rw [f3 _ _ (by omega), e2, i0, zu_c (by omega), zu_at, ← hp']
          rfl
    · have h9 : ¬ h1 91 9 = 2 := by rw [t1.2.1]; exact so_2 k1
      simp only [e134_13, e134_14, e134_17, e134_18, zs0, zsI, zsL, zsR, ztl1, ztl0, zc0, zcI, zcL, zcR, true_and, and_true, true_implies, false_implies, implies_true, not_true_eq_false, not_false_eq_true, and_self, Int.toNat_natCast, Nat.reduceAdd, Nat.reduceLeDiff, Nat.reduceLT, forall_eq', Option.some.injEq, zarR, zarI, zarL, zle, zq0, zq1, zq2, zq3, zq4, zq5, zq6, zq8, zq9, zq10, zq20, zq7, zq12, zq24, zq40, zq41, zq48, zq100, zq120, zq123, zq480, zq492, zq700, zq729, zq2187, zq2916, zq8748, ne_eq, Int.reduceEq, Int.reduceLT, Int.reduceLE, Int.reduceToNat, Int.reduceMul, Int.reduceAdd, Int.reduceNeg, gk91 hg, gr91_5 hg, gr91_22 hg, gr91_23 hg, gr91_24 hg, gr91_25 hg, gr91_26 hg, gr91_27 hg, gr91_28 hg, gr91_29 hg, gr91_32 hg, gr91_33 hg, gr91_34 hg, gr91_35 hg, gr91_36 hg, gr91_37 hg, gr91_38 hg, gr91_39 hg, gr91_40 hg, gr91_41 hg, gr91_42 hg, gr91_44 hg, gr91_45 hg, gr91_46 hg, gr91_48 hg, gr91_49 hg, gr91_50 hg, gr91_51 hg, gr91_52 hg, h9]
      exact bad (Or.inl k1)
end MN
