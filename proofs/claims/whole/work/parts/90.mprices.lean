def PRm (u : Nat) (h : zM) (T : aTn) : Prop := h u 2 = (nP T : Int) ∧ ∀ i, i < nP T → h (u + 4) i = tr T 8 i
def fmp (u : Nat) (h h' : zM) : Prop := ∀ c i, ¬ (c = 91 ∧ 8 ≤ i ∧ i ≤ 15) → ¬ (c = u ∧ i = 2) → ¬ c = u + 4 → h' c i = h c i
theorem fmp.tr {u : Nat} {h h1 h2 : zM} (a : fmp u h h1) (b : fmp u h1 h2) : fmp u h h2 := fun c i q1 q2 q3 => (b c i q1 q2 q3).trans (a c i q1 q2 q3)
theorem mfm.fmp {u : Nat} {h h' : zM} (a : mfm h h') : fmp u h h' := fun c i z _ _ => a c i z
def LPm (tp : Nat → Int) (n u : Nat) (r : pE ⊕ (Nat × aTn)) (h : zM) : Prop := match r with
  | .inl e => MS tp n (.inl e) h
  | .inr p => MS tp n (.inr p.1) h ∧ PRm u h p.2
section MP
variable {d : Nat} {Q : zQ} {G : zG} {h : zM} {n q u : Nat} {tp : Nat → Int}
/-- a dead reader at a price -/
theorem m_priceDead (hg : gS G) (hv : gV G u) {e : pE} {P : Nat} {t : Int} {l3 l4 : Option _} (c : MS tp n (.inl e) h) (h2 : h u 2 = (P : Int)) (hP : P ≤ 3) (K : ∀ h' : zM, mfm h h' → MS tp n (.inl e) h' → Q none G h') : zE 137 (d + 3) Q 60 [some (zR (some 91)), some (zI t), some (zI 1), l3, l4] [] G h (0, 0) := by
  have u121 : 121 ≤ u := hv.1
  have tail : ∀ (v : Int) (h' : zM), mfm h h' → MV tp n (.inl e) h' v → zE 137 (d + 3) Q 109 [some (zR (some 91)), some (zI t), some (zI 1), some (zI (h 91 10)), l4] [zI v] G h' (0, 0) := by
    intro v h' f' c'
    have h9 : h' 91 9 = 5 := c'.2.1
    have h2' : h' u 2 = (P : Int) := by rw [f' _ _ (by omega)]; exact h2
    have w := fun b Q' => m_wrongHere' (d := d + 2) (Q := Q') (h := h') (a := 5) (b := b) hg h9
    have kk := K h' f' c'
    by_cases p3 : (P : Int) = 3
    · simp only [e137_109, e137_111, e137_112, e137_115, e137_118, e137_119, e137_122, e137_123, e137_124, e137_125, e137_128, e137_129, e137_132, e137_133, e137_136, zs0, zsI, zsL, zsR, ztl1, ztl0, zc0, zcI, zcL, zcR, true_and, and_true, true_implies, false_implies, implies_true, not_true_eq_false, not_false_eq_true, and_self, Int.toNat_natCast, Nat.reduceAdd, Nat.reduceLeDiff, Nat.reduceLT, forall_eq', Option.some.injEq, zarR, zarI, zarL, zle, zq0, zq1, zq2, zq3, zq4, zq5, zq6, zq8, zq9, zq10, zq20, zq7, zq12, zq24, zq40, zq41, zq48, zq100, zq120, zq123, zq480, zq492, zq700, zq729, zq2187, zq2916, zq8748, ne_eq, Int.reduceEq, Int.reduceLT, Int.reduceLE, Int.reduceToNat, Int.reduceMul, Int.reduceAdd, Int.reduceNeg, gk91 hg, gr91_5 hg, gr91_22 hg, gr91_23 hg, gr91_24 hg, gr91_25 hg, gr91_26 hg, gr91_27 hg, gr91_28 hg, gr91_29 hg, gr91_32 hg, gr91_33 hg, gr91_34 hg, gr91_35 hg, gr91_36 hg, gr91_37 hg, gr91_38 hg, gr91_39 hg, gr91_40 hg, gr91_41 hg, gr91_42 hg, gr91_44 hg, gr91_45 hg, gr91_46 hg, gr91_48 hg, gr91_49 hg, gr91_50 hg, gr91_51 hg, gr91_52 hg, hv, h2', p3, w, h9]
      exact kk
    · simp only [e137_109, e137_111, e137_112, e137_115, e137_118, e137_119, e137_122, e137_123, e137_124, e137_125, e137_128, e137_129, e137_132, e137_133, e137_136, zs0, zsI, zsL, zsR, ztl1, ztl0, zc0, zcI, zcL, zcR, true_and, and_true, true_implies, false_implies, implies_true, not_true_eq_false, not_false_eq_true, and_self, Int.toNat_natCast, Nat.reduceAdd, Nat.reduceLeDiff, Nat.reduceLT, forall_eq', Option.some.injEq, zarR, zarI, zarL, zle, zq0, zq1, zq2, zq3, zq4, zq5, zq6, zq8, zq9, zq10, zq20, zq7, zq12, zq24, zq40, zq41, zq48, zq100, zq120, zq123, zq480, zq492, zq700, zq729, zq2187, zq2916, zq8748, ne_eq, Int.reduceEq, Int.reduceLT, Int.reduceLE, Int.reduceToNat, Int.reduceMul, Int.reduceAdd, Int.reduceNeg, gk91 hg, gr91_5 hg, gr91_22 hg, gr91_23 hg, gr91_24 hg, gr91_25 hg, gr91_26 hg, gr91_27 hg, gr91_28 hg, gr91_29 hg, gr91_32 hg, gr91_33 hg, gr91_34 hg, gr91_35 hg, gr91_36 hg, gr91_37 hg, gr91_38 hg, gr91_39 hg, gr91_40 hg, gr91_41 hg, gr91_42 hg, gr91_44 hg, gr91_45 hg, gr91_46 hg, gr91_48 hg, gr91_49 hg, gr91_50 hg, gr91_51 hg, gr91_52 hg, hv, h2', p3, h9]
      exact kk
  rw [e137_60]
  by_cases p0 : (P : Int) = 0
  · simp only [e137_61, e137_64, e137_65, e137_68, e137_69, e137_70, e137_71, e137_74, e137_77, e137_80, e137_81, e137_84, e137_85, e137_88, e137_91, e137_92, e137_95, e137_98, e137_99, e137_100, e137_101, e137_102, e137_103, e137_106, zs0, zsI, zsL, zsR, ztl1, ztl0, zc0, zcI, zcL, zcR, true_and, and_true, true_implies, false_implies, implies_true, not_true_eq_false, not_false_eq_true, and_self, Int.toNat_natCast, Nat.reduceAdd, Nat.reduceLeDiff, Nat.reduceLT, forall_eq', Option.some.injEq, zarR, zarI, zarL, zle, zq0, zq1, zq2, zq3, zq4, zq5, zq6, zq8, zq9, zq10, zq20, zq7, zq12, zq24, zq40, zq41, zq48, zq100, zq120, zq123, zq480, zq492, zq700, zq729, zq2187, zq2916, zq8748, ne_eq, Int.reduceEq, Int.reduceLT, Int.reduceLE, Int.reduceToNat, Int.reduceMul, Int.reduceAdd, Int.reduceNeg, gk91 hg, gr91_5 hg, gr91_22 hg, gr91_23 hg, gr91_24 hg, gr91_25 hg, gr91_26 hg, gr91_27 hg, gr91_28 hg, gr91_29 hg, gr91_32 hg, gr91_33 hg, gr91_34 hg, gr91_35 hg, gr91_36 hg, gr91_37 hg, gr91_38 hg, gr91_39 hg, gr91_40 hg, gr91_41 hg, gr91_42 hg, gr91_44 hg, gr91_45 hg, gr91_46 hg, gr91_48 hg, gr91_49 hg, gr91_50 hg, gr91_51 hg, gr91_52 hg, hv, h2, p0]
    apply m_readWhole (d := d) hg c
    intro v h' f' c'
    exact tail v h' f' c'
  · have w1 : wr ((P : Int) - 1) = ((P - 1 : Nat) : Int) := wrN (by omega) (by omega)
    have i3 : ((P - 1 : Nat) : Int) < 3 := by omega
    simp only [e137_61, e137_64, e137_65, e137_68, e137_69, e137_70, e137_71, e137_74, e137_77, e137_80, e137_81, e137_84, e137_85, e137_88, e137_91, e137_92, e137_95, e137_98, e137_99, e137_100, e137_101, e137_102, e137_103, e137_106, zs0, zsI, zsL, zsR, ztl1, ztl0, zc0, zcI, zcL, zcR, true_and, and_true, true_implies, false_implies, implies_true, not_true_eq_false, not_false_eq_true, and_self, Int.toNat_natCast, Nat.reduceAdd, Nat.reduceLeDiff, Nat.reduceLT, forall_eq', Option.some.injEq, zarR, zarI, zarL, zle, zq0, zq1, zq2, zq3, zq4, zq5, zq6, zq8, zq9, zq10, zq20, zq7, zq12, zq24, zq40, zq41, zq48, zq100, zq120, zq123, zq480, zq492, zq700, zq729, zq2187, zq2916, zq8748, ne_eq, Int.reduceEq, Int.reduceLT, Int.reduceLE, Int.reduceToNat, Int.reduceMul, Int.reduceAdd, Int.reduceNeg, gk91 hg, gr91_5 hg, gr91_22 hg, gr91_23 hg, gr91_24 hg, gr91_25 hg, gr91_26 hg, gr91_27 hg, gr91_28 hg, gr91_29 hg, gr91_32 hg, gr91_33 hg, gr91_34 hg, gr91_35 hg, gr91_36 hg, gr91_37 hg, gr91_38 hg, gr91_39 hg, gr91_40 hg, gr91_41 hg, gr91_42 hg, gr91_44 hg, gr91_45 hg, gr91_46 hg, gr91_48 hg, gr91_49 hg, gr91_50 hg, gr91_51 hg, gr91_52 hg, hv, h2, p0, w1, i3]
    apply m_readWhole (d := d) hg c
    intro v h' f' c'
    exact tail v h' f' c'
/-- one price -/
theorem m_price (hg : gS G) (hv : gV G u) {T : aTn} {t : Int} {l3 l4 : Option _} (c : MS tp n (.inr q) h) (hP : PRm u h T) (h3 : nP T ≤ 3) (hb : ∀ i, 0 ≤ tr T 8 i ∧ tr T 8 i ≤ 199) (KD : ∀ (e : pE) (h' : zM), fmp u h h' → pPr tp n T q = .inl e → MS tp n (.inl e) h' → Q none G h') (KL : ∀ (p : Nat × aTn) (h' : zM) (a b : Int), fmp u h h' → pPr tp n T q = .inr p → MS tp n (.inr p.1) h' → PRm u h' p.2 → zE 137 (d + 3) Q 167 [some (zR (some 91)), some (zI t), some (zI 1), some (zI a), some (zI b)] [] G h' (0, 0)) : zE 137 (d + 3) Q 60 [some (zR (some 91)), some (zI t), some (zI 1), l3, l4] [] G h (0, 0) := by
  have u121 : 121 ≤ u := hv.1
  have p2 := hP.1
  have t10 := c.2.2.2.2.1
  have tail : ∀ (v : Int) (h' : zM), mfm h h' → MV tp n (pN tp n (if nP T = 0 then 0 else tr T 8 (nP T - 1) + 1) 199 q) h' v → zE 137 (d + 3) Q 109 [some (zR (some 91)), some (zI t), some (zI 1), some (zI (st tp n q : Nat)), l4] [zI v] G h' (0, 0) := by
    intro v h' f' c'
    have p2' : h' u 2 = (nP T : Int) := by rw [f' _ _ (by omega)]; exact p2
    cases hN : pN tp n (if nP T = 0 then 0 else tr T 8 (nP T - 1) + 1) 199 q with
    | inl e =>
      rw [hN] at c'
      have h9 : h' 91 9 = 5 := c'.2.1
      have w := fun b Q' => m_wrongHere' (d := d + 2) (Q := Q') (h := h') (a := 5) (b := b) hg h9
      have kk := KD e h' f'.fmp (by unfold pPr; rw [hN]) c'
      by_cases p3 : ((nP T : Nat) : Int) = 3
      · simp only [e137_109, e137_111, e137_112, e137_115, e137_118, e137_119, e137_122, e137_123, e137_124, e137_125, e137_128, e137_129, e137_132, e137_133, e137_136, zs0, zsI, zsL, zsR, ztl1, ztl0, zc0, zcI, zcL, zcR, true_and, and_true, true_implies, false_implies, implies_true, not_true_eq_false, not_false_eq_true, and_self, Int.toNat_natCast, Nat.reduceAdd, Nat.reduceLeDiff, Nat.reduceLT, forall_eq', Option.some.injEq, zarR, zarI, zarL, zle, zq0, zq1, zq2, zq3, zq4, zq5, zq6, zq8, zq9, zq10, zq20, zq7, zq12, zq24, zq40, zq41, zq48, zq100, zq120, zq123, zq480, zq492, zq700, zq729, zq2187, zq2916, zq8748, ne_eq, Int.reduceEq, Int.reduceLT, Int.reduceLE, Int.reduceToNat, Int.reduceMul, Int.reduceAdd, Int.reduceNeg, gk91 hg, gr91_5 hg, gr91_22 hg, gr91_23 hg, gr91_24 hg, gr91_25 hg, gr91_26 hg, gr91_27 hg, gr91_28 hg, gr91_29 hg, gr91_32 hg, gr91_33 hg, gr91_34 hg, gr91_35 hg, gr91_36 hg, gr91_37 hg, gr91_38 hg, gr91_39 hg, gr91_40 hg, gr91_41 hg, gr91_42 hg, gr91_44 hg, gr91_45 hg, gr91_46 hg, gr91_48 hg, gr91_49 hg, gr91_50 hg, gr91_51 hg, gr91_52 hg, hv, p2', p3, w, h9]
        exact kk
      · simp only [e137_109, e137_111, e137_112, e137_115, e137_118, e137_119, e137_122, e137_123, e137_124, e137_125, e137_128, e137_129, e137_132, e137_133, e137_136, zs0, zsI, zsL, zsR, ztl1, ztl0, zc0, zcI, zcL, zcR, true_and, and_true, true_implies, false_implies, implies_true, not_true_eq_false, not_false_eq_true, and_self, Int.toNat_natCast, Nat.reduceAdd, Nat.reduceLeDiff, Nat.reduceLT, forall_eq', Option.some.injEq, zarR, zarI, zarL, zle, zq0, zq1, zq2, zq3, zq4, zq5, zq6, zq8, zq9, zq10, zq20, zq7, zq12, zq24, zq40, zq41, zq48, zq100, zq120, zq123, zq480, zq492, zq700, zq729, zq2187, zq2916, zq8748, ne_eq, Int.reduceEq, Int.reduceLT, Int.reduceLE, Int.reduceToNat, Int.reduceMul, Int.reduceAdd, Int.reduceNeg, gk91 hg, gr91_5 hg, gr91_22 hg, gr91_23 hg, gr91_24 hg, gr91_25 hg, gr91_26 hg, gr91_27 hg, gr91_28 hg, gr91_29 hg, gr91_32 hg, gr91_33 hg, gr91_34 hg, gr91_35 hg, gr91_36 hg, gr91_37 hg, gr91_38 hg, gr91_39 hg, gr91_40 hg, gr91_41 hg, gr91_42 hg, gr91_44 hg, gr91_45 hg, gr91_46 hg, gr91_48 hg, gr91_49 hg, gr91_50 hg, gr91_51 hg, gr91_52 hg, hv, p2', p3, h9]
        exact kk
    | inr p =>
      rw [hN] at c'
      obtain ⟨c', ev⟩ := c'
      subst ev
      have n9 := MS_9 c'
      by_cases p3 : nP T = 3
      · have p3' : ((nP T : Nat) : Int) = 3 := by omega
        have w := fun b Q' => m_wrongHere (d := d + 2) (Q := Q') (h := h') (a := 5) (b := b) hg n9
        have kk := KD (5, (st tp n q : Nat)) _ (f'.tr mfm_die).fmp (by unfold pPr; rw [hN]; dsimp only; rw [if_pos p3]) (MS_die c' (a := 5) (b := (st tp n q : Nat)) (by decide))
        simp only [e137_109, e137_111, e137_112, e137_115, e137_118, e137_119, e137_122, e137_123, e137_124, e137_125, e137_128, e137_129, e137_132, e137_133, e137_136, zs0, zsI, zsL, zsR, ztl1, ztl0, zc0, zcI, zcL, zcR, true_and, and_true, true_implies, false_implies, implies_true, not_true_eq_false, not_false_eq_true, and_self, Int.toNat_natCast, Nat.reduceAdd, Nat.reduceLeDiff, Nat.reduceLT, forall_eq', Option.some.injEq, zarR, zarI, zarL, zle, zq0, zq1, zq2, zq3, zq4, zq5, zq6, zq8, zq9, zq10, zq20, zq7, zq12, zq24, zq40, zq41, zq48, zq100, zq120, zq123, zq480, zq492, zq700, zq729, zq2187, zq2916, zq8748, ne_eq, Int.reduceEq, Int.reduceLT, Int.reduceLE, Int.reduceToNat, Int.reduceMul, Int.reduceAdd, Int.reduceNeg, gk91 hg, gr91_5 hg, gr91_22 hg, gr91_23 hg, gr91_24 hg, gr91_25 hg, gr91_26 hg, gr91_27 hg, gr91_28 hg, gr91_29 hg, gr91_32 hg, gr91_33 hg, gr91_34 hg, gr91_35 hg, gr91_36 hg, gr91_37 hg, gr91_38 hg, gr91_39 hg, gr91_40 hg, gr91_41 hg, gr91_42 hg, gr91_44 hg, gr91_45 hg, gr91_46 hg, gr91_48 hg, gr91_49 hg, gr91_50 hg, gr91_51 hg, gr91_52 hg, hv, p2', p3', w, zu_at]
        exact kk
      · have p3' : ¬ ((nP T : Nat) : Int) = 3 := by omega
        have i3 : ((nP T : Nat) : Int) < 3 := by omega
        have ePr : pPr tp n T q = .inr (p.1, prT T p.2) := by unfold pPr; rw [hN]; dsimp only; rw [if_neg p3]
        have e2 : ∀ x, zu h' (u + 4) (nP T) x u 2 = (nP T : Int) := fun x => by rw [zu_c (by omega)]; exact p2'
        simp only [e137_109, e137_111, e137_112, e137_115, e137_118, e137_119, e137_122, e137_123, e137_124, e137_125, e137_128, e137_129, e137_132, e137_133, e137_136, e137_137, e137_138, e137_141, e137_144, e137_145, e137_148, e137_151, e137_153, e137_154, e137_155, e137_158, e137_159, e137_162, e137_163, e137_164, zs0, zsI, zsL, zsR, ztl1, ztl0, zc0, zcI, zcL, zcR, true_and, and_true, true_implies, false_implies, implies_true, not_true_eq_false, not_false_eq_true, and_self, Int.toNat_natCast, Nat.reduceAdd, Nat.reduceLeDiff, Nat.reduceLT, forall_eq', Option.some.injEq, zarR, zarI, zarL, zle, zq0, zq1, zq2, zq3, zq4, zq5, zq6, zq8, zq9, zq10, zq20, zq7, zq12, zq24, zq40, zq41, zq48, zq100, zq120, zq123, zq480, zq492, zq700, zq729, zq2187, zq2916, zq8748, ne_eq, Int.reduceEq, Int.reduceLT, Int.reduceLE, Int.reduceToNat, Int.reduceMul, Int.reduceAdd, Int.reduceNeg, gk91 hg, gr91_5 hg, gr91_22 hg, gr91_23 hg, gr91_24 hg, gr91_25 hg, gr91_26 hg, gr91_27 hg, gr91_28 hg, gr91_29 hg, gr91_32 hg, gr91_33 hg, gr91_34 hg, gr91_35 hg, gr91_36 hg, gr91_37 hg, gr91_38 hg, gr91_39 hg, gr91_40 hg, gr91_41 hg, gr91_42 hg, gr91_44 hg, gr91_45 hg, gr91_46 hg, gr91_48 hg, gr91_49 hg, gr91_50 hg, gr91_51 hg, gr91_52 hg, hv, p2', p3', n9, i3, e2, wr_s (show nP T < 2147483647 by omega)]
        obtain ⟨hf, ehf⟩ : ∃ z, z = zu (zu h' (u + 4) (nP T) p.2) u 2 ((nP T + 1 : Nat) : Int) := ⟨_, rfl⟩
        rw [← ehf]
        have fz : ∀ c i, ¬ (c = u ∧ i = 2) → ¬ (c = u + 4 ∧ i = nP T) → hf c i = h' c i := fun c i z1 z2 => by rw [ehf, zu, if_neg z1, zu, if_neg z2]
        apply KL _ hf _ _ (fun c i z1 z2 z3 => by rw [fz c i z2 (by omega), f' c i z1]) ePr (MS_fr c' (fun i _ _ => fz _ _ (by omega) (by omega)) (fun i => fz _ _ (by omega) (by omega)))
        refine ⟨by rw [ehf, zu_at]; rfl, fun i hi => ?_⟩
        have hi' : i < nP T + 1 := hi
        dsimp only
        rw [prT_8]
        by_cases z : i = nP T
        · rw [if_pos z, z, ehf, zu_c (by omega), zu_at]
        · rw [if_neg z, fz _ _ (by omega) (by omega), f' _ _ (by omega)]
          exact hP.2 i (by omega)
  rw [e137_60]
  by_cases p0 : nP T = 0
  · rw [if_pos p0] at tail
    have p0' : ((nP T : Nat) : Int) = 0 := by omega
    simp only [e137_61, e137_64, e137_65, e137_68, e137_69, e137_70, e137_71, e137_74, e137_77, e137_80, e137_81, e137_84, e137_85, e137_88, e137_91, e137_92, e137_95, e137_98, e137_99, e137_100, e137_101, e137_102, e137_103, e137_106, zs0, zsI, zsL, zsR, ztl1, ztl0, zc0, zcI, zcL, zcR, true_and, and_true, true_implies, false_implies, implies_true, not_true_eq_false, not_false_eq_true, and_self, Int.toNat_natCast, Nat.reduceAdd, Nat.reduceLeDiff, Nat.reduceLT, forall_eq', Option.some.injEq, zarR, zarI, zarL, zle, zq0, zq1, zq2, zq3, zq4, zq5, zq6, zq8, zq9, zq10, zq20, zq7, zq12, zq24, zq40, zq41, zq48, zq100, zq120, zq123, zq480, zq492, zq700, zq729, zq2187, zq2916, zq8748, ne_eq, Int.reduceEq, Int.reduceLT, Int.reduceLE, Int.reduceToNat, Int.reduceMul, Int.reduceAdd, Int.reduceNeg, gk91 hg, gr91_5 hg, gr91_22 hg, gr91_23 hg, gr91_24 hg, gr91_25 hg, gr91_26 hg, gr91_27 hg, gr91_28 hg, gr91_29 hg, gr91_32 hg, gr91_33 hg, gr91_34 hg, gr91_35 hg, gr91_36 hg, gr91_37 hg, gr91_38 hg, gr91_39 hg, gr91_40 hg, gr91_41 hg, gr91_42 hg, gr91_44 hg, gr91_45 hg, gr91_46 hg, gr91_48 hg, gr91_49 hg, gr91_50 hg, gr91_51 hg, gr91_52 hg, hv, p2, p0', t10]
    apply m_readWhole (d := d) hg c
    intro v h' f' c'
    exact tail v h' f' c'
  · rw [if_neg p0] at tail
    have p0' : ¬ ((nP T : Nat) : Int) = 0 := by omega
    have w1 : wr ((nP T : Int) - 1) = ((nP T - 1 : Nat) : Int) := wrN (by omega) (by omega)
    have i3 : ((nP T - 1 : Nat) : Int) < 3 := by omega
    have e8 := hP.2 (nP T - 1) (by omega)
    have b8 := hb (nP T - 1)
    have w2 : wr (tr T 8 (nP T - 1) + 1) = tr T 8 (nP T - 1) + 1 := wr_id (by omega)
    simp only [e137_61, e137_64, e137_65, e137_68, e137_69, e137_70, e137_71, e137_74, e137_77, e137_80, e137_81, e137_84, e137_85, e137_88, e137_91, e137_92, e137_95, e137_98, e137_99, e137_100, e137_101, e137_102, e137_103, e137_106, zs0, zsI, zsL, zsR, ztl1, ztl0, zc0, zcI, zcL, zcR, true_and, and_true, true_implies, false_implies, implies_true, not_true_eq_false, not_false_eq_true, and_self, Int.toNat_natCast, Nat.reduceAdd, Nat.reduceLeDiff, Nat.reduceLT, forall_eq', Option.some.injEq, zarR, zarI, zarL, zle, zq0, zq1, zq2, zq3, zq4, zq5, zq6, zq8, zq9, zq10, zq20, zq7, zq12, zq24, zq40, zq41, zq48, zq100, zq120, zq123, zq480, zq492, zq700, zq729, zq2187, zq2916, zq8748, ne_eq, Int.reduceEq, Int.reduceLT, Int.reduceLE, Int.reduceToNat, Int.reduceMul, Int.reduceAdd, Int.reduceNeg, gk91 hg, gr91_5 hg, gr91_22 hg, gr91_23 hg, gr91_24 hg, gr91_25 hg, gr91_26 hg, gr91_27 hg, gr91_28 hg, gr91_29 hg, gr91_32 hg, gr91_33 hg, gr91_34 hg, gr91_35 hg, gr91_36 hg, gr91_37 hg, gr91_38 hg, gr91_39 hg, gr91_40 hg, gr91_41 hg, gr91_42 hg, gr91_44 hg, gr91_45 hg, gr91_46 hg, gr91_48 hg, gr91_49 hg, gr91_50 hg, gr91_51 hg, gr91_52 hg, hv, p2, p0', t10, w1, i3, e8, w2]
    apply m_readWhole (d := d) hg c
    intro v h' f' c'
    exact tail v h' f' c'
theorem m_pLoop (hg : gS G) (hv : gV G u) {t : Int} (k : Nat) {T : aTn} {q : Nat} {h : zM} {a b : Int} (c : MS tp n (.inr q) h) (hP : PRm u h T) (h3 : 1 ≤ nP T ∧ nP T ≤ 3) (hb : ∀ i, 0 ≤ tr T 8 i ∧ tr T 8 i ≤ 199) (hk : 5 ≤ k + nP T) (K : ∀ h' : zM, fmp u h h' → LPm tp n u (pPL tp n k T q) h' → Q none G h') : zE 137 (d + 3) Q 167 [some (zR (some 91)), some (zI t), some (zI 1), some (zI a), some (zI b)] [] G h (0, 0) := by
  induction k generalizing T q h a b with
  | zero => omega
  | succ k ih =>
    have u121 : 121 ≤ u := hv.1
    unfold pPL at K
    simp only [e137_167, e137_168, e137_170, zs0, zsI, zsL, zsR, ztl1, ztl0, zc0, zcI, zcL, zcR, true_and, and_true, true_implies, false_implies, implies_true, not_true_eq_false, not_false_eq_true, and_self, Int.toNat_natCast, Nat.reduceAdd, Nat.reduceLeDiff, Nat.reduceLT, forall_eq', Option.some.injEq, zarR, zarI, zarL, zle, zq0, zq1, zq2, zq3, zq4, zq5, zq6, zq8, zq9, zq10, zq20, zq7, zq12, zq24, zq40, zq41, zq48, zq100, zq120, zq123, zq480, zq492, zq700, zq729, zq2187, zq2916, zq8748, ne_eq, Int.reduceEq, Int.reduceLT, Int.reduceLE, Int.reduceToNat, Int.reduceMul, Int.reduceAdd, Int.reduceNeg, gk91 hg, gr91_5 hg, gr91_22 hg, gr91_23 hg, gr91_24 hg, gr91_25 hg, gr91_26 hg, gr91_27 hg, gr91_28 hg, gr91_29 hg, gr91_32 hg, gr91_33 hg, gr91_34 hg, gr91_35 hg, gr91_36 hg, gr91_37 hg, gr91_38 hg, gr91_39 hg, gr91_40 hg, gr91_41 hg, gr91_42 hg, gr91_44 hg, gr91_45 hg, gr91_46 hg, gr91_48 hg, gr91_49 hg, gr91_50 hg, gr91_51 hg, gr91_52 hg]
    apply m_eats (d := d) (k := 4) hg c (Or.inr ⟨rfl, rfl⟩)
    intro v h1 f1 z1 _
    rcases z1 q rfl with ⟨v1, k4, c1⟩ | ⟨v1, k4, e1⟩
    · subst v1
      rw [if_pos k4] at K
      simp only [e137_173, e137_174, zs0, zsI, zsL, zsR, ztl1, ztl0, zc0, zcI, zcL, zcR, true_and, and_true, true_implies, false_implies, implies_true, not_true_eq_false, not_false_eq_true, and_self, Int.toNat_natCast, Nat.reduceAdd, Nat.reduceLeDiff, Nat.reduceLT, forall_eq', Option.some.injEq, zarR, zarI, zarL, zle, zq0, zq1, zq2, zq3, zq4, zq5, zq6, zq8, zq9, zq10, zq20, zq7, zq12, zq24, zq40, zq41, zq48, zq100, zq120, zq123, zq480, zq492, zq700, zq729, zq2187, zq2916, zq8748, ne_eq, Int.reduceEq, Int.reduceLT, Int.reduceLE, Int.reduceToNat, Int.reduceMul, Int.reduceAdd, Int.reduceNeg]
      have hP1 : PRm u h1 T := ⟨by rw [f1 _ _ (by omega)]; exact hP.1, fun i hi => by rw [f1 _ _ (by omega)]; exact hP.2 i hi⟩
      apply m_price hg hv c1 hP1 h3.2 hb
      · intro e h' f' e' c'
        rw [e'] at K
        exact K h' (f1.fmp.tr f') c'
      · intro p h' a' b' f' e' c' P'
        rw [e'] at K
        dsimp only at K
        obtain ⟨y1, y2, y3, v', y4, y5⟩ := pPr_ok c1.2.2.1 e'
        have en : nP p.2 = nP T + 1 := by rw [y4]; rfl
        apply ih c' P' (by omega) (fun i => by
          rw [y4, prT_8]
          split
          · exact y5
          · exact hb i) (by omega)
        intro h2 f2 r2
        exact K h2 (f1.fmp.tr (f'.tr f2)) r2
    · subst v1
      subst e1
      rw [if_neg k4] at K
      have kk := K h1 (fun _ _ _ _ _ => rfl) ⟨c, hP⟩
      simp only [e137_173, e137_174, zs0, zsI, zsL, zsR, ztl1, ztl0, zc0, zcI, zcL, zcR, true_and, and_true, true_implies, false_implies, implies_true, not_true_eq_false, not_false_eq_true, and_self, Int.toNat_natCast, Nat.reduceAdd, Nat.reduceLeDiff, Nat.reduceLT, forall_eq', Option.some.injEq, zarR, zarI, zarL, zle, zq0, zq1, zq2, zq3, zq4, zq5, zq6, zq8, zq9, zq10, zq20, zq7, zq12, zq24, zq40, zq41, zq48, zq100, zq120, zq123, zq480, zq492, zq700, zq729, zq2187, zq2916, zq8748, ne_eq, Int.reduceEq, Int.reduceLT, Int.reduceLE, Int.reduceToNat, Int.reduceMul, Int.reduceAdd, Int.reduceNeg]
      rw [e137_60]
      simp only [e137_61, e137_177, zs0, zsI, zsL, zsR, ztl1, ztl0, zc0, zcI, zcL, zcR, true_and, and_true, true_implies, false_implies, implies_true, not_true_eq_false, not_false_eq_true, and_self, Int.toNat_natCast, Nat.reduceAdd, Nat.reduceLeDiff, Nat.reduceLT, forall_eq', Option.some.injEq, zarR, zarI, zarL, zle, zq0, zq1, zq2, zq3, zq4, zq5, zq6, zq8, zq9, zq10, zq20, zq7, zq12, zq24, zq40, zq41, zq48, zq100, zq120, zq123, zq480, zq492, zq700, zq729, zq2187, zq2916, zq8748, ne_eq, Int.reduceEq, Int.reduceLT, Int.reduceLE, Int.reduceToNat, Int.reduceMul, Int.reduceAdd, Int.reduceNeg]
      exact kk
end MP
