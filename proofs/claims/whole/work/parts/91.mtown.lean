section MTw
variable {d : Nat} {Q : zQ} {G : zG} {h : zM} {n q u : Nat} {tp : Nat → Int} {D : pD}
theorem m_readPrices (hg : gS G) (hv : gV G u) (c : MS tp n (.inr q) h) (hk : kd tp n q = 1) (k : DM tp u h D) (hB : DB tp n D) (hW : WB D.1) (K : ∀ h' : zM, fm u h h' → LM tp n u (pPs' tp n D q) h' → Q none G h') : zRunD ztb zmt' (d + 4) 137 [zR (some 91)] G h Q := by
  rw [r137]
  have u121 : 121 ≤ u := hv.1
  obtain ⟨b1, b2, b3, b4, b5, b6⟩ := hB
  obtain ⟨⟨r1, r2, r3, r4, r5, r6, r7, r8, r9, r10, r11, r12⟩, rtw, rkp, rL, rN⟩ := id k
  unfold pPs' at K
  -- the dead go through
  have deadP : ∀ (e : pE) (g : zM) (t : Int), fm u h g → g u 2 = (nP D.1 : Int) → MS tp n (.inl e) g → (∀ h' : zM, fm u h h' → MS tp n (.inl e) h' → Q none G h') → (t = 0 ∨ t = 1) → zE 137 (d + 3) Q 46 [some (zR (some 91)), some (zI t), none, none, none] [] G g (0, 0) := by
    intro e g t f1 g2 c1 KK ht
    have c2 : MS tp n (.inl e) (zu g u 5 t) := MS_fr c1 (fun i _ _ => zu_c (by omega)) (fun i => zu_c (by omega))
    simp only [e137_46, e137_47, e137_50, e137_51, e137_54, e137_55, zs0, zsI, zsL, zsR, ztl1, ztl0, zc0, zcI, zcL, zcR, true_and, and_true, true_implies, false_implies, implies_true, not_true_eq_false, not_false_eq_true, and_self, Int.toNat_natCast, Nat.reduceAdd, Nat.reduceLeDiff, Nat.reduceLT, forall_eq', Option.some.injEq, zarR, zarI, zarL, zle, zq0, zq1, zq2, zq3, zq4, zq5, zq6, zq8, zq9, zq10, zq20, zq7, zq12, zq24, zq40, zq41, zq48, zq100, zq120, zq123, zq480, zq492, zq700, zq729, zq2187, zq2916, zq8748, ne_eq, Int.reduceEq, Int.reduceLT, Int.reduceLE, Int.reduceToNat, Int.reduceMul, Int.reduceAdd, Int.reduceNeg, gk91 hg, gr91_5 hg, gr91_22 hg, gr91_23 hg, gr91_24 hg, gr91_25 hg, gr91_26 hg, gr91_27 hg, gr91_28 hg, gr91_29 hg, gr91_32 hg, gr91_33 hg, gr91_34 hg, gr91_35 hg, gr91_36 hg, gr91_37 hg, gr91_38 hg, gr91_39 hg, gr91_40 hg, gr91_41 hg, gr91_42 hg, gr91_44 hg, gr91_45 hg, gr91_46 hg, gr91_48 hg, gr91_49 hg, gr91_50 hg, gr91_51 hg, gr91_52 hg, hv, ht]
    apply m_go (d := d + 1) hg c2 (fun q z => by cases z)
    intro h3 _ e3 _
    have := e3 _ rfl
    subst this
    simp only [e137_58, e137_59, zs0, zsI, zsL, zsR, ztl1, ztl0, zc0, zcI, zcL, zcR, true_and, and_true, true_implies, false_implies, implies_true, not_true_eq_false, not_false_eq_true, and_self, Int.toNat_natCast, Nat.reduceAdd, Nat.reduceLeDiff, Nat.reduceLT, forall_eq', Option.some.injEq, zarR, zarI, zarL, zle, zq0, zq1, zq2, zq3, zq4, zq5, zq6, zq8, zq9, zq10, zq20, zq7, zq12, zq24, zq40, zq41, zq48, zq100, zq120, zq123, zq480, zq492, zq700, zq729, zq2187, zq2916, zq8748, ne_eq, Int.reduceEq, Int.reduceLT, Int.reduceLE, Int.reduceToNat, Int.reduceMul, Int.reduceAdd, Int.reduceNeg]
    apply m_priceDead hg hv c2 (P := nP D.1) (by rw [zu_i (by decide)]; exact g2) b3
    intro h' f' c'
    exact KK h' (fun c i z1 z2 => by rw [f' c i z1, zu_c (by omega)]; exact f1 c i z1 z2) c'
  have deadE : ∀ (e : pE) (g : zM), fm u h g → g u 2 = (nP D.1 : Int) → MS tp n (.inl e) g → (∀ h' : zM, fm u h h' → MS tp n (.inl e) h' → Q none G h') → zE 137 (d + 3) Q 19 [some (zR (some 91)), none, none, none, none] [] G g (0, 0) := by
    intro e g f1 g2 c1 KK
    simp only [e137_19, e137_20, e137_23, zs0, zsI, zsL, zsR, ztl1, ztl0, zc0, zcI, zcL, zcR, true_and, and_true, true_implies, false_implies, implies_true, not_true_eq_false, not_false_eq_true, and_self, Int.toNat_natCast, Nat.reduceAdd, Nat.reduceLeDiff, Nat.reduceLT, forall_eq', Option.some.injEq, zarR, zarI, zarL, zle, zq0, zq1, zq2, zq3, zq4, zq5, zq6, zq8, zq9, zq10, zq20, zq7, zq12, zq24, zq40, zq41, zq48, zq100, zq120, zq123, zq480, zq492, zq700, zq729, zq2187, zq2916, zq8748, ne_eq, Int.reduceEq, Int.reduceLT, Int.reduceLE, Int.reduceToNat, Int.reduceMul, Int.reduceAdd, Int.reduceNeg, gk91 hg, gr91_5 hg, gr91_22 hg, gr91_23 hg, gr91_24 hg, gr91_25 hg, gr91_26 hg, gr91_27 hg, gr91_28 hg, gr91_29 hg, gr91_32 hg, gr91_33 hg, gr91_34 hg, gr91_35 hg, gr91_36 hg, gr91_37 hg, gr91_38 hg, gr91_39 hg, gr91_40 hg, gr91_41 hg, gr91_42 hg, gr91_44 hg, gr91_45 hg, gr91_46 hg, gr91_48 hg, gr91_49 hg, gr91_50 hg, gr91_51 hg, gr91_52 hg]
    apply m_isWord (d := d + 1) (id := 14) hg (by decide) c1
    intro v vl vd
    have v0 := vd e rfl
    subst v0
    simp only [e137_26, e137_27, e137_28, e137_31, e137_32, e137_35, zs0, zsI, zsL, zsR, ztl1, ztl0, zc0, zcI, zcL, zcR, true_and, and_true, true_implies, false_implies, implies_true, not_true_eq_false, not_false_eq_true, and_self, Int.toNat_natCast, Nat.reduceAdd, Nat.reduceLeDiff, Nat.reduceLT, forall_eq', Option.some.injEq, zarR, zarI, zarL, zle, zq0, zq1, zq2, zq3, zq4, zq5, zq6, zq8, zq9, zq10, zq20, zq7, zq12, zq24, zq40, zq41, zq48, zq100, zq120, zq123, zq480, zq492, zq700, zq729, zq2187, zq2916, zq8748, ne_eq, Int.reduceEq, Int.reduceLT, Int.reduceLE, Int.reduceToNat, Int.reduceMul, Int.reduceAdd, Int.reduceNeg, gk91 hg, gr91_5 hg, gr91_22 hg, gr91_23 hg, gr91_24 hg, gr91_25 hg, gr91_26 hg, gr91_27 hg, gr91_28 hg, gr91_29 hg, gr91_32 hg, gr91_33 hg, gr91_34 hg, gr91_35 hg, gr91_36 hg, gr91_37 hg, gr91_38 hg, gr91_39 hg, gr91_40 hg, gr91_41 hg, gr91_42 hg, gr91_44 hg, gr91_45 hg, gr91_46 hg, gr91_48 hg, gr91_49 hg, gr91_50 hg, gr91_51 hg, gr91_52 hg]
    apply m_isWord (d := d + 1) (id := 13) hg (by decide) c1
    intro v vl vd
    have v0 := vd e rfl
    subst v0
    have w := fun Q' => m_wrong' (d := d + 1) (Q := Q') (h := g) (a := 1) hg c1.2.1
    simp only [e137_38, e137_41, e137_42, e137_43, zs0, zsI, zsL, zsR, ztl1, ztl0, zc0, zcI, zcL, zcR, true_and, and_true, true_implies, false_implies, implies_true, not_true_eq_false, not_false_eq_true, and_self, Int.toNat_natCast, Nat.reduceAdd, Nat.reduceLeDiff, Nat.reduceLT, forall_eq', Option.some.injEq, zarR, zarI, zarL, zle, zq0, zq1, zq2, zq3, zq4, zq5, zq6, zq8, zq9, zq10, zq20, zq7, zq12, zq24, zq40, zq41, zq48, zq100, zq120, zq123, zq480, zq492, zq700, zq729, zq2187, zq2916, zq8748, ne_eq, Int.reduceEq, Int.reduceLT, Int.reduceLE, Int.reduceToNat, Int.reduceMul, Int.reduceAdd, Int.reduceNeg, gk91 hg, gr91_5 hg, gr91_22 hg, gr91_23 hg, gr91_24 hg, gr91_25 hg, gr91_26 hg, gr91_27 hg, gr91_28 hg, gr91_29 hg, gr91_32 hg, gr91_33 hg, gr91_34 hg, gr91_35 hg, gr91_36 hg, gr91_37 hg, gr91_38 hg, gr91_39 hg, gr91_40 hg, gr91_41 hg, gr91_42 hg, gr91_44 hg, gr91_45 hg, gr91_46 hg, gr91_48 hg, gr91_49 hg, gr91_50 hg, gr91_51 hg, gr91_52 hg, w]
    exact deadP e g 0 f1 g2 c1 KK (Or.inl rfl)
  by_cases np : nP D.1 = 0
  · rw [if_neg (by omega)] at K
    have np' : ((nP D.1 : Nat) : Int) ≤ 0 := by omega
    simp only [e137_0, e137_1, e137_4, e137_7, e137_10, e137_11, e137_12, e137_15, e137_16, zs0, zsI, zsL, zsR, ztl1, ztl0, zc0, zcI, zcL, zcR, true_and, and_true, true_implies, false_implies, implies_true, not_true_eq_false, not_false_eq_true, and_self, Int.toNat_natCast, Nat.reduceAdd, Nat.reduceLeDiff, Nat.reduceLT, forall_eq', Option.some.injEq, zarR, zarI, zarL, zle, zq0, zq1, zq2, zq3, zq4, zq5, zq6, zq8, zq9, zq10, zq20, zq7, zq12, zq24, zq40, zq41, zq48, zq100, zq120, zq123, zq480, zq492, zq700, zq729, zq2187, zq2916, zq8748, ne_eq, Int.reduceEq, Int.reduceLT, Int.reduceLE, Int.reduceToNat, Int.reduceMul, Int.reduceAdd, Int.reduceNeg, gk91 hg, gr91_5 hg, gr91_22 hg, gr91_23 hg, gr91_24 hg, gr91_25 hg, gr91_26 hg, gr91_27 hg, gr91_28 hg, gr91_29 hg, gr91_32 hg, gr91_33 hg, gr91_34 hg, gr91_35 hg, gr91_36 hg, gr91_37 hg, gr91_38 hg, gr91_39 hg, gr91_40 hg, gr91_41 hg, gr91_42 hg, gr91_44 hg, gr91_45 hg, gr91_46 hg, gr91_48 hg, gr91_49 hg, gr91_50 hg, gr91_51 hg, gr91_52 hg, hv, r3, np']
    apply m_go (d := d + 1) hg c (fun q' z => by cases z; omega)
    intro h1 f1 _ c1
    dsimp only [sP] at c1
    generalize hq1 : nxt tp n q = q1 at c1 K
    have f1' : fm u h h1 := f1.fm
    have g2 : h1 u 2 = (nP D.1 : Int) := by rw [f1 _ _ (by omega)]; exact r3
    -- behind the word
    have live : ∀ t : Int, (t = 0 ∨ t = 1) → kd tp n q1 = 1 → pEi tp n 13 14 q1 = .inr (nxt tp n q1, t) → zE 137 (d + 3) Q 46 [some (zR (some 91)), some (zI t), none, none, none] [] G h1 (0, 0) := by
      intro t ht k1 eE
      rw [eE] at K
      dsimp only at K
      have c2 : MS tp n (.inr q1) (zu h1 u 5 t) := MS_fr c1 (fun i _ _ => zu_c (by omega)) (fun i => zu_c (by omega))
      simp only [e137_46, e137_47, e137_50, e137_51, e137_54, e137_55, zs0, zsI, zsL, zsR, ztl1, ztl0, zc0, zcI, zcL, zcR, true_and, and_true, true_implies, false_implies, implies_true, not_true_eq_false, not_false_eq_true, and_self, Int.toNat_natCast, Nat.reduceAdd, Nat.reduceLeDiff, Nat.reduceLT, forall_eq', Option.some.injEq, zarR, zarI, zarL, zle, zq0, zq1, zq2, zq3, zq4, zq5, zq6, zq8, zq9, zq10, zq20, zq7, zq12, zq24, zq40, zq41, zq48, zq100, zq120, zq123, zq480, zq492, zq700, zq729, zq2187, zq2916, zq8748, ne_eq, Int.reduceEq, Int.reduceLT, Int.reduceLE, Int.reduceToNat, Int.reduceMul, Int.reduceAdd, Int.reduceNeg, gk91 hg, gr91_5 hg, gr91_22 hg, gr91_23 hg, gr91_24 hg, gr91_25 hg, gr91_26 hg, gr91_27 hg, gr91_28 hg, gr91_29 hg, gr91_32 hg, gr91_33 hg, gr91_34 hg, gr91_35 hg, gr91_36 hg, gr91_37 hg, gr91_38 hg, gr91_39 hg, gr91_40 hg, gr91_41 hg, gr91_42 hg, gr91_44 hg, gr91_45 hg, gr91_46 hg, gr91_48 hg, gr91_49 hg, gr91_50 hg, gr91_51 hg, gr91_52 hg, hv, ht]
      apply m_go (d := d + 1) hg c2 (fun q' z => by cases z; omega)
      intro h3 f3 _ c3
      dsimp only [sP] at c3
      simp only [e137_58, e137_59, zs0, zsI, zsL, zsR, ztl1, ztl0, zc0, zcI, zcL, zcR, true_and, and_true, true_implies, false_implies, implies_true, not_true_eq_false, not_false_eq_true, and_self, Int.toNat_natCast, Nat.reduceAdd, Nat.reduceLeDiff, Nat.reduceLT, forall_eq', Option.some.injEq, zarR, zarI, zarL, zle, zq0, zq1, zq2, zq3, zq4, zq5, zq6, zq8, zq9, zq10, zq20, zq7, zq12, zq24, zq40, zq41, zq48, zq100, zq120, zq123, zq480, zq492, zq700, zq729, zq2187, zq2916, zq8748, ne_eq, Int.reduceEq, Int.reduceLT, Int.reduceLE, Int.reduceToNat, Int.reduceMul, Int.reduceAdd, Int.reduceNeg]
      have P3 : PRm u h3 (twT D.1 t) := by
        refine ⟨?_, fun i hi => ?_⟩
        · rw [f3 _ _ (by omega), zu_i (by decide), f1 _ _ (by omega)]; exact r3
        · have : i < nP D.1 := hi
          omega
      have F3 : fm u h h3 := fun c i z1 z2 => by rw [f3 c i z1, zu_c (by omega), f1 c i z1]
      apply m_price hg hv c3 P3 (show nP D.1 ≤ 3 from b3) (fun i => (hW.2.2 i).2.2.2.2.2.2.2.2)
      · intro e h' f' e' c'
        rw [e'] at K
        exact K h' (F3.tr (fun c i z1 z2 => f' c i z1 (by omega) (by omega))) c'
      · intro r h4 a' b' f4 e4 c4 P4
        rw [e4] at K
        dsimp only at K
        obtain ⟨y1, y2, y3, v', y4, y5⟩ := pPr_ok c3.2.2.1 e4
        have en : nP r.2 = nP D.1 + 1 := by rw [y4]; rfl
        have w2 : WB r.2 := by rw [y4]; exact WB_pr (T := twT D.1 t) ⟨ht, hW.2.1, hW.2.2⟩ y5
        apply m_pLoop hg hv 4 c4 P4 (by omega) (fun i => (w2.2.2 i).2.2.2.2.2.2.2.2) (by omega)
        intro h5 f5 c5
        have F5 : fm u h h5 := F3.tr (fun c i z1 z2 => by rw [f5 c i z1 (by omega) (by omega), f4 c i z1 (by omega) (by omega)])
        cases hL : pPL tp n 4 r.2 r.1 with
        | inl e =>
          rw [hL] at c5 K
          exact K h5 F5 c5
        | inr s =>
          rw [hL] at c5 K
          dsimp only at K
          have ok := pPL_ok 4 y2 (by omega) w2 hL
          have rows := pPL_rows 4 hL
          apply K h5 F5
          have eB : nB s.2 = nB D.1 := by rw [ok.2.2.2.2.1, y4]; rfl
          have eS : nS s.2 = nS D.1 := by rw [ok.2.2.2.2.2.1, y4]; rfl
          have eT : tw s.2 = t := by rw [ok.2.2.2.2.2.2, y4]; rfl
          have eR : ∀ j i, ¬ j = 8 → tr s.2 j i = tr D.1 j i := fun j i hj => by rw [(rows j i hj).1, y4, prT_o hj]; rfl
          have eK : kp s.2 = kp D.1 := by rw [(rows 0 0 (by decide)).2, y4]; rfl
          have bk : ∀ c i, ¬ (c = 91 ∧ 8 ≤ i ∧ i ≤ 15) → ¬ (c = u ∧ i = 2) → ¬ (c = u ∧ i = 5) → ¬ c = u + 4 → h5 c i = h c i := fun c i z1 z2 z3 z4 => by rw [f5 c i z1 z2 z4, f4 c i z1 z2 z4, f3 c i z1, zu, if_neg z3, f1 c i z1]
          refine ⟨c5.1, ⟨?_, ?_, c5.2.1, ?_, ?_, ?_, c5.2.2, ?_, ?_, ?_, ?_, ?_⟩, ?_, ?_, ?_, ?_⟩
          · rw [bk _ _ (by omega) (by omega) (by omega) (by omega), r1, ← eB]
          · rw [bk _ _ (by omega) (by omega) (by omega) (by omega), r2, ← eS]
          · intro i hi; rw [eR _ _ (by decide), bk _ _ (by omega) (by omega) (by omega) (by omega)]; exact r4 i (by dsimp only at hi; omega)
          · intro i hi; rw [eR _ _ (by decide), bk _ _ (by omega) (by omega) (by omega) (by omega)]; exact r5 i (by dsimp only at hi; omega)
          · intro i hi; rw [eR _ _ (by decide), bk _ _ (by omega) (by omega) (by omega) (by omega)]; exact r6 i (by dsimp only at hi; omega)
          · intro i hi; rw [eR _ _ (by decide), bk _ _ (by omega) (by omega) (by omega) (by omega)]; exact r8 i (by dsimp only at hi; omega)
          · intro i hi; rw [eR _ _ (by decide), bk _ _ (by omega) (by omega) (by omega) (by omega)]; exact r9 i (by dsimp only at hi; omega)
          · intro i hi; rw [eR _ _ (by decide), bk _ _ (by omega) (by omega) (by omega) (by omega)]; exact r10 i (by dsimp only at hi; omega)
          · intro i hi; rw [eR _ _ (by decide), bk _ _ (by omega) (by omega) (by omega) (by omega)]; exact r11 i (by dsimp only at hi; omega)
          · intro i hi; rw [eR _ _ (by decide), bk _ _ (by omega) (by omega) (by omega) (by omega)]; exact r12 i (by dsimp only at hi; omega)
          · intro _; rw [f5 _ _ (by omega) (by omega) (by omega), f4 _ _ (by omega) (by omega) (by omega), f3 _ _ (by omega), zu_at]; exact eT.symm
          · rw [bk _ _ (by omega) (by omega) (by omega) (by omega)]; dsimp only; rw [eK]; exact rkp
          · rw [bk _ _ (by omega) (by omega) (by omega) (by omega)]; exact rL
          · intro i p hp; rw [bk _ _ (by omega) (by omega) (by omega) (by omega)]; exact rN i p hp
    simp only [e137_19, e137_20, e137_23, zs0, zsI, zsL, zsR, ztl1, ztl0, zc0, zcI, zcL, zcR, true_and, and_true, true_implies, false_implies, implies_true, not_true_eq_false, not_false_eq_true, and_self, Int.toNat_natCast, Nat.reduceAdd, Nat.reduceLeDiff, Nat.reduceLT, forall_eq', Option.some.injEq, zarR, zarI, zarL, zle, zq0, zq1, zq2, zq3, zq4, zq5, zq6, zq8, zq9, zq10, zq20, zq7, zq12, zq24, zq40, zq41, zq48, zq100, zq120, zq123, zq480, zq492, zq700, zq729, zq2187, zq2916, zq8748, ne_eq, Int.reduceEq, Int.reduceLT, Int.reduceLE, Int.reduceToNat, Int.reduceMul, Int.reduceAdd, Int.reduceNeg, gk91 hg, gr91_5 hg, gr91_22 hg, gr91_23 hg, gr91_24 hg, gr91_25 hg, gr91_26 hg, gr91_27 hg, gr91_28 hg, gr91_29 hg, gr91_32 hg, gr91_33 hg, gr91_34 hg, gr91_35 hg, gr91_36 hg, gr91_37 hg, gr91_38 hg, gr91_39 hg, gr91_40 hg, gr91_41 hg, gr91_42 hg, gr91_44 hg, gr91_45 hg, gr91_46 hg, gr91_48 hg, gr91_49 hg, gr91_50 hg, gr91_51 hg, gr91_52 hg]
    apply m_isWord (d := d + 1) (id := 14) hg (by decide) c1
    intro v vl vd
    rcases vl q1 rfl with ⟨v1, y⟩ | ⟨v1, y⟩
    · subst v1
      unfold isW at y
      simp only [e137_26, e137_27, e137_28, e137_31, e137_32, e137_35, e137_38, e137_41, e137_42, e137_43, zs0, zsI, zsL, zsR, ztl1, ztl0, zc0, zcI, zcL, zcR, true_and, and_true, true_implies, false_implies, implies_true, not_true_eq_false, not_false_eq_true, and_self, Int.toNat_natCast, Nat.reduceAdd, Nat.reduceLeDiff, Nat.reduceLT, forall_eq', Option.some.injEq, zarR, zarI, zarL, zle, zq0, zq1, zq2, zq3, zq4, zq5, zq6, zq8, zq9, zq10, zq20, zq7, zq12, zq24, zq40, zq41, zq48, zq100, zq120, zq123, zq480, zq492, zq700, zq729, zq2187, zq2916, zq8748, ne_eq, Int.reduceEq, Int.reduceLT, Int.reduceLE, Int.reduceToNat, Int.reduceMul, Int.reduceAdd, Int.reduceNeg]
      exact live 1 (Or.inr rfl) y.1 (by unfold pEi; rw [if_pos y])
    · subst v1
      unfold isW at y
      simp only [e137_26, e137_27, e137_28, e137_31, e137_32, e137_35, zs0, zsI, zsL, zsR, ztl1, ztl0, zc0, zcI, zcL, zcR, true_and, and_true, true_implies, false_implies, implies_true, not_true_eq_false, not_false_eq_true, and_self, Int.toNat_natCast, Nat.reduceAdd, Nat.reduceLeDiff, Nat.reduceLT, forall_eq', Option.some.injEq, zarR, zarI, zarL, zle, zq0, zq1, zq2, zq3, zq4, zq5, zq6, zq8, zq9, zq10, zq20, zq7, zq12, zq24, zq40, zq41, zq48, zq100, zq120, zq123, zq480, zq492, zq700, zq729, zq2187, zq2916, zq8748, ne_eq, Int.reduceEq, Int.reduceLT, Int.reduceLE, Int.reduceToNat, Int.reduceMul, Int.reduceAdd, Int.reduceNeg, gk91 hg, gr91_5 hg, gr91_22 hg, gr91_23 hg, gr91_24 hg, gr91_25 hg, gr91_26 hg, gr91_27 hg, gr91_28 hg, gr91_29 hg, gr91_32 hg, gr91_33 hg, gr91_34 hg, gr91_35 hg, gr91_36 hg, gr91_37 hg, gr91_38 hg, gr91_39 hg, gr91_40 hg, gr91_41 hg, gr91_42 hg, gr91_44 hg, gr91_45 hg, gr91_46 hg, gr91_48 hg, gr91_49 hg, gr91_50 hg, gr91_51 hg, gr91_52 hg]
      apply m_isWord (d := d + 1) (id := 13) hg (by decide) c1
      intro v' vl' vd'
      rcases vl' q1 rfl with ⟨v1, y'⟩ | ⟨v1, y'⟩
      · subst v1
        unfold isW at y'
        simp only [e137_38, e137_41, e137_42, e137_43, zs0, zsI, zsL, zsR, ztl1, ztl0, zc0, zcI, zcL, zcR, true_and, and_true, true_implies, false_implies, implies_true, not_true_eq_false, not_false_eq_true, and_self, Int.toNat_natCast, Nat.reduceAdd, Nat.reduceLeDiff, Nat.reduceLT, forall_eq', Option.some.injEq, zarR, zarI, zarL, zle, zq0, zq1, zq2, zq3, zq4, zq5, zq6, zq8, zq9, zq10, zq20, zq7, zq12, zq24, zq40, zq41, zq48, zq100, zq120, zq123, zq480, zq492, zq700, zq729, zq2187, zq2916, zq8748, ne_eq, Int.reduceEq, Int.reduceLT, Int.reduceLE, Int.reduceToNat, Int.reduceMul, Int.reduceAdd, Int.reduceNeg]
        exact live 0 (Or.inl rfl) y'.1 (by unfold pEi; rw [if_neg y, if_pos y'])
      · subst v1
        unfold isW at y'
        have eE : pEi tp n 13 14 q1 = .inl (1, (st tp n q1 : Nat)) := by unfold pEi; rw [if_neg y, if_neg y']
        rw [eE] at K
        have w := fun Q' => m_wrong (d := d + 1) (Q := Q') (h := h1) (a := 1) hg (MS_9 c1)
        simp only [e137_38, e137_41, e137_42, e137_43, zs0, zsI, zsL, zsR, ztl1, ztl0, zc0, zcI, zcL, zcR, true_and, and_true, true_implies, false_implies, implies_true, not_true_eq_false, not_false_eq_true, and_self, Int.toNat_natCast, Nat.reduceAdd, Nat.reduceLeDiff, Nat.reduceLT, forall_eq', Option.some.injEq, zarR, zarI, zarL, zle, zq0, zq1, zq2, zq3, zq4, zq5, zq6, zq8, zq9, zq10, zq20, zq7, zq12, zq24, zq40, zq41, zq48, zq100, zq120, zq123, zq480, zq492, zq700, zq729, zq2187, zq2916, zq8748, ne_eq, Int.reduceEq, Int.reduceLT, Int.reduceLE, Int.reduceToNat, Int.reduceMul, Int.reduceAdd, Int.reduceNeg, gk91 hg, gr91_5 hg, gr91_22 hg, gr91_23 hg, gr91_24 hg, gr91_25 hg, gr91_26 hg, gr91_27 hg, gr91_28 hg, gr91_29 hg, gr91_32 hg, gr91_33 hg, gr91_34 hg, gr91_35 hg, gr91_36 hg, gr91_37 hg, gr91_38 hg, gr91_39 hg, gr91_40 hg, gr91_41 hg, gr91_42 hg, gr91_44 hg, gr91_45 hg, gr91_46 hg, gr91_48 hg, gr91_49 hg, gr91_50 hg, gr91_51 hg, gr91_52 hg, w]
        have c2 := MS_die c1 (a := 1) (b := h1 91 10) (by decide)
        rw [c1.2.2.2.2.1] at c2 ⊢
        exact deadP _ _ 0 (f1'.tr mfm_die.fm) (by rw [zu_c (by omega), zu_c (by omega), zu_c (by omega)]; exact g2) c2 K (Or.inl rfl)
  · rw [if_pos np] at K
    have np' : ¬ ((nP D.1 : Nat) : Int) ≤ 0 := by omega
    have w := fun Q' => m_wrong (d := d + 1) (Q := Q') (h := h) (a := 3) hg (MS_9 c)
    simp only [e137_0, e137_1, e137_4, e137_7, e137_10, e137_11, e137_12, e137_15, e137_16, zs0, zsI, zsL, zsR, ztl1, ztl0, zc0, zcI, zcL, zcR, true_and, and_true, true_implies, false_implies, implies_true, not_true_eq_false, not_false_eq_true, and_self, Int.toNat_natCast, Nat.reduceAdd, Nat.reduceLeDiff, Nat.reduceLT, forall_eq', Option.some.injEq, zarR, zarI, zarL, zle, zq0, zq1, zq2, zq3, zq4, zq5, zq6, zq8, zq9, zq10, zq20, zq7, zq12, zq24, zq40, zq41, zq48, zq100, zq120, zq123, zq480, zq492, zq700, zq729, zq2187, zq2916, zq8748, ne_eq, Int.reduceEq, Int.reduceLT, Int.reduceLE, Int.reduceToNat, Int.reduceMul, Int.reduceAdd, Int.reduceNeg, gk91 hg, gr91_5 hg, gr91_22 hg, gr91_23 hg, gr91_24 hg, gr91_25 hg, gr91_26 hg, gr91_27 hg, gr91_28 hg, gr91_29 hg, gr91_32 hg, gr91_33 hg, gr91_34 hg, gr91_35 hg, gr91_36 hg, gr91_37 hg, gr91_38 hg, gr91_39 hg, gr91_40 hg, gr91_41 hg, gr91_42 hg, gr91_44 hg, gr91_45 hg, gr91_46 hg, gr91_48 hg, gr91_49 hg, gr91_50 hg, gr91_51 hg, gr91_52 hg, hv, r3, np', w]
    have c2 := MS_die c (a := 3) (b := h 91 10) (by decide)
    rw [c.2.2.2.2.1] at c2 ⊢
    apply m_go (d := d + 1) hg c2 (fun q z => by cases z)
    intro h3 _ e3 _
    have := e3 _ rfl
    subst this
    exact deadE _ _ mfm_die.fm (by rw [zu_c (by omega), zu_c (by omega), zu_c (by omega)]; exact r3) c2 K
theorem m_readKeep (hg : gS G) (hv : gV G u) (c : MS tp n (.inr q) h) (hk : kd tp n q = 1 ∧ wd tp n q = kwc 3) (k : DM tp u h D) (hB : DB tp n D) (hW : WB D.1) (K : ∀ h' : zM, fm u h h' → LM tp n u (pKp tp n D q) h' → Q none G h') : zRunD ztb zmt' (d + 4) 138 [zR (some 91)] G h Q := by
  rw [r138]
  have u121 : 121 ≤ u := hv.1
  obtain ⟨b1, b2, b3, b4, b5, b6⟩ := hB
  obtain ⟨⟨r1, r2, r3, r4, r5, r6, r7, r8, r9, r10, r11, r12⟩, rtw, rkp, rL, rN⟩ := id k
  have tail : ∀ (s : pE ⊕ Nat) (g : zM), mfm h g → MS tp n s g → (∀ (e : pE) (h' : zM), sV s (pN tp n 0 100) = .inl e → mfm h h' → MS tp n (.inl e) h' → Q none G h') → (∀ (p : Nat × Int) (h' : zM), sV s (pN tp n 0 100) = .inr p → mfm h h' → MS tp n (.inr p.1) h' → Q none G (zu h' u 3 p.2)) → zE 138 (d + 3) Q 20 [some (zR (some 91)), none] [] G g (0, 0) := by
    intro s g f1 c1 KD KL
    simp only [e138_20, e138_21, e138_22, e138_24, zs0, zsI, zsL, zsR, ztl1, ztl0, zc0, zcI, zcL, zcR, true_and, and_true, true_implies, false_implies, implies_true, not_true_eq_false, not_false_eq_true, and_self, Int.toNat_natCast, Nat.reduceAdd, Nat.reduceLeDiff, Nat.reduceLT, forall_eq', Option.some.injEq, zarR, zarI, zarL, zle, zq0, zq1, zq2, zq3, zq4, zq5, zq6, zq8, zq9, zq10, zq20, zq7, zq12, zq24, zq40, zq41, zq48, zq100, zq120, zq123, zq480, zq492, zq700, zq729, zq2187, zq2916, zq8748, ne_eq, Int.reduceEq, Int.reduceLT, Int.reduceLE, Int.reduceToNat, Int.reduceMul, Int.reduceAdd, Int.reduceNeg, gk91 hg, gr91_5 hg, gr91_22 hg, gr91_23 hg, gr91_24 hg, gr91_25 hg, gr91_26 hg, gr91_27 hg, gr91_28 hg, gr91_29 hg, gr91_32 hg, gr91_33 hg, gr91_34 hg, gr91_35 hg, gr91_36 hg, gr91_37 hg, gr91_38 hg, gr91_39 hg, gr91_40 hg, gr91_41 hg, gr91_42 hg, gr91_44 hg, gr91_45 hg, gr91_46 hg, gr91_48 hg, gr91_49 hg, gr91_50 hg, gr91_51 hg, gr91_52 hg]
    apply m_readWhole (d := d) hg c1
    intro v h' f' c'
    cases hN : sV s (pN tp n 0 100) with
    | inl e =>
      rw [hN] at c'
      have h9 : h' 91 9 = 5 := c'.2.1
      have kk := KD e h' hN (f1.tr f') c'
      simp only [e138_27, e138_28, e138_29, e138_32, e138_33, e138_36, e138_37, e138_40, e138_41, e138_44, zs0, zsI, zsL, zsR, ztl1, ztl0, zc0, zcI, zcL, zcR, true_and, and_true, true_implies, false_implies, implies_true, not_true_eq_false, not_false_eq_true, and_self, Int.toNat_natCast, Nat.reduceAdd, Nat.reduceLeDiff, Nat.reduceLT, forall_eq', Option.some.injEq, zarR, zarI, zarL, zle, zq0, zq1, zq2, zq3, zq4, zq5, zq6, zq8, zq9, zq10, zq20, zq7, zq12, zq24, zq40, zq41, zq48, zq100, zq120, zq123, zq480, zq492, zq700, zq729, zq2187, zq2916, zq8748, ne_eq, Int.reduceEq, Int.reduceLT, Int.reduceLE, Int.reduceToNat, Int.reduceMul, Int.reduceAdd, Int.reduceNeg, gk91 hg, gr91_5 hg, gr91_22 hg, gr91_23 hg, gr91_24 hg, gr91_25 hg, gr91_26 hg, gr91_27 hg, gr91_28 hg, gr91_29 hg, gr91_32 hg, gr91_33 hg, gr91_34 hg, gr91_35 hg, gr91_36 hg, gr91_37 hg, gr91_38 hg, gr91_39 hg, gr91_40 hg, gr91_41 hg, gr91_42 hg, gr91_44 hg, gr91_45 hg, gr91_46 hg, gr91_48 hg, gr91_49 hg, gr91_50 hg, gr91_51 hg, gr91_52 hg, h9]
      exact kk
    | inr p =>
      rw [hN] at c'
      obtain ⟨c', ev⟩ := c'
      subst ev
      have n9 := MS_9 c'
      have kk := KL p h' hN (f1.tr f') c'
      simp only [e138_27, e138_28, e138_29, e138_32, e138_33, e138_36, e138_37, e138_40, e138_41, e138_44, zs0, zsI, zsL, zsR, ztl1, ztl0, zc0, zcI, zcL, zcR, true_and, and_true, true_implies, false_implies, implies_true, not_true_eq_false, not_false_eq_true, and_self, Int.toNat_natCast, Nat.reduceAdd, Nat.reduceLeDiff, Nat.reduceLT, forall_eq', Option.some.injEq, zarR, zarI, zarL, zle, zq0, zq1, zq2, zq3, zq4, zq5, zq6, zq8, zq9, zq10, zq20, zq7, zq12, zq24, zq40, zq41, zq48, zq100, zq120, zq123, zq480, zq492, zq700, zq729, zq2187, zq2916, zq8748, ne_eq, Int.reduceEq, Int.reduceLT, Int.reduceLE, Int.reduceToNat, Int.reduceMul, Int.reduceAdd, Int.reduceNeg, gk91 hg, gr91_5 hg, gr91_22 hg, gr91_23 hg, gr91_24 hg, gr91_25 hg, gr91_26 hg, gr91_27 hg, gr91_28 hg, gr91_29 hg, gr91_32 hg, gr91_33 hg, gr91_34 hg, gr91_35 hg, gr91_36 hg, gr91_37 hg, gr91_38 hg, gr91_39 hg, gr91_40 hg, gr91_41 hg, gr91_42 hg, gr91_44 hg, gr91_45 hg, gr91_46 hg, gr91_48 hg, gr91_49 hg, gr91_50 hg, gr91_51 hg, gr91_52 hg, hv, n9]
      exact kk
  unfold pKp at K
  by_cases kt : D.2.2 = 0
  · rw [if_neg (by omega)] at K
    rw [if_pos kt] at rkp
    unfold pWh at K
    rw [if_pos hk] at K
    simp only [e138_0, e138_1, e138_4, e138_7, e138_8, e138_11, e138_12, e138_13, e138_16, e138_17, zs0, zsI, zsL, zsR, ztl1, ztl0, zc0, zcI, zcL, zcR, true_and, and_true, true_implies, false_implies, implies_true, not_true_eq_false, not_false_eq_true, and_self, Int.toNat_natCast, Nat.reduceAdd, Nat.reduceLeDiff, Nat.reduceLT, forall_eq', Option.some.injEq, zarR, zarI, zarL, zle, zq0, zq1, zq2, zq3, zq4, zq5, zq6, zq8, zq9, zq10, zq20, zq7, zq12, zq24, zq40, zq41, zq48, zq100, zq120, zq123, zq480, zq492, zq700, zq729, zq2187, zq2916, zq8748, ne_eq, Int.reduceEq, Int.reduceLT, Int.reduceLE, Int.reduceToNat, Int.reduceMul, Int.reduceAdd, Int.reduceNeg, gk91 hg, gr91_5 hg, gr91_22 hg, gr91_23 hg, gr91_24 hg, gr91_25 hg, gr91_26 hg, gr91_27 hg, gr91_28 hg, gr91_29 hg, gr91_32 hg, gr91_33 hg, gr91_34 hg, gr91_35 hg, gr91_36 hg, gr91_37 hg, gr91_38 hg, gr91_39 hg, gr91_40 hg, gr91_41 hg, gr91_42 hg, gr91_44 hg, gr91_45 hg, gr91_46 hg, gr91_48 hg, gr91_49 hg, gr91_50 hg, gr91_51 hg, gr91_52 hg, hv, rkp]
    apply m_go (d := d + 1) hg c (fun q' z => by cases z; omega)
    intro h1 f1 _ c1
    apply tail _ h1 f1 c1
    · intro e h' e' f' c'
      dsimp only [sP, sV] at e'
      rw [e'] at K
      exact K h' f'.fm c'
    · intro p h' e' f' c'
      dsimp only [sP, sV] at e'
      rw [e'] at K
      dsimp only at K
      have bk : ∀ c i, ¬ (c = 91 ∧ 8 ≤ i ∧ i ≤ 15) → ¬ (c = u ∧ i = 3) → zu h' u 3 p.2 c i = h c i := fun c i z1 z2 => by rw [zu, if_neg z2, f' c i z1]
      apply K _ (fun c i z1 z2 => bk c i z1 (by omega))
      refine ⟨MS_fr c' (fun i _ _ => zu_c (by omega)) (fun i => zu_c (by omega)), ⟨?_, ?_, ?_, ?_, ?_, ?_, ?_, ?_, ?_, ?_, ?_, ?_⟩, ?_, ?_, ?_, ?_⟩
      · rw [bk _ _ (by omega) (by omega)]; exact r1
      · rw [bk _ _ (by omega) (by omega)]; exact r2
      · rw [bk _ _ (by omega) (by omega)]; exact r3
      · intro i hi; rw [bk _ _ (by omega) (by omega)]; exact r4 i hi
      · intro i hi; rw [bk _ _ (by omega) (by omega)]; exact r5 i hi
      · intro i hi; rw [bk _ _ (by omega) (by omega)]; exact r6 i hi
      · intro i hi; rw [bk _ _ (by omega) (by omega)]; exact r7 i hi
      · intro i hi; rw [bk _ _ (by omega) (by omega)]; exact r8 i hi
      · intro i hi; rw [bk _ _ (by omega) (by omega)]; exact r9 i hi
      · intro i hi; rw [bk _ _ (by omega) (by omega)]; exact r10 i hi
      · intro i hi; rw [bk _ _ (by omega) (by omega)]; exact r11 i hi
      · intro i hi; rw [bk _ _ (by omega) (by omega)]; exact r12 i hi
      · intro z; rw [bk _ _ (by omega) (by omega)]; exact rtw z
      · rw [zu_at]
        dsimp only
        rw [if_neg (by decide)]
        rfl
      · rw [bk _ _ (by omega) (by omega)]; exact rL
      · intro i p hp; rw [bk _ _ (by omega) (by omega)]; exact rN i p hp
  · rw [if_pos kt] at K
    rw [if_neg kt] at rkp
    have kp0 := hW.2.1.1
    have n1 : ¬ kp D.1 = -1 := by omega
    have w := fun Q' => m_wrong (d := d + 1) (Q := Q') (h := h) (a := 3) hg (MS_9 c)
    simp only [e138_0, e138_1, e138_4, e138_7, e138_8, e138_11, e138_12, e138_13, e138_16, e138_17, zs0, zsI, zsL, zsR, ztl1, ztl0, zc0, zcI, zcL, zcR, true_and, and_true, true_implies, false_implies, implies_true, not_true_eq_false, not_false_eq_true, and_self, Int.toNat_natCast, Nat.reduceAdd, Nat.reduceLeDiff, Nat.reduceLT, forall_eq', Option.some.injEq, zarR, zarI, zarL, zle, zq0, zq1, zq2, zq3, zq4, zq5, zq6, zq8, zq9, zq10, zq20, zq7, zq12, zq24, zq40, zq41, zq48, zq100, zq120, zq123, zq480, zq492, zq700, zq729, zq2187, zq2916, zq8748, ne_eq, Int.reduceEq, Int.reduceLT, Int.reduceLE, Int.reduceToNat, Int.reduceMul, Int.reduceAdd, Int.reduceNeg, gk91 hg, gr91_5 hg, gr91_22 hg, gr91_23 hg, gr91_24 hg, gr91_25 hg, gr91_26 hg, gr91_27 hg, gr91_28 hg, gr91_29 hg, gr91_32 hg, gr91_33 hg, gr91_34 hg, gr91_35 hg, gr91_36 hg, gr91_37 hg, gr91_38 hg, gr91_39 hg, gr91_40 hg, gr91_41 hg, gr91_42 hg, gr91_44 hg, gr91_45 hg, gr91_46 hg, gr91_48 hg, gr91_49 hg, gr91_50 hg, gr91_51 hg, gr91_52 hg, hv, rkp, n1, w]
    have c2 := MS_die c (a := 3) (b := h 91 10) (by decide)
    rw [c.2.2.2.2.1] at c2 ⊢
    apply m_go (d := d + 1) hg c2 (fun q z => by cases z)
    intro h3 _ e3 _
    have := e3 _ rfl
    subst this
    apply tail (.inl _) _ mfm_die c2
    · intro e h' e' f' c'
      dsimp only [sV] at e'
      cases e'
      exact K h' f'.fm c'
    · intro p h' e' f' c'
      dsimp only [sV] at e'
      cases e'
theorem m_line (hg : gS G) (hv : gV G u) (c : MS tp n (.inr q) h) (k : DM tp u h D) (hB : DB tp n D) (hW : WB D.1) (K : ∀ h' : zM, fm u h h' → LM tp n u (pLn tp n D q) h' → Q none G h') : zRunD ztb zmt' (d + 6) 133 [zR (some 91)] G h Q := by
  rw [r133]
  unfold pLn at K
  simp only [e133_0, e133_1, e133_3, zs0, zsI, zsL, zsR, ztl1, ztl0, zc0, zcI, zcL, zcR, true_and, and_true, true_implies, false_implies, implies_true, not_true_eq_false, not_false_eq_true, and_self, Int.toNat_natCast, Nat.reduceAdd, Nat.reduceLeDiff, Nat.reduceLT, forall_eq', Option.some.injEq, zarR, zarI, zarL, zle, zq0, zq1, zq2, zq3, zq4, zq5, zq6, zq8, zq9, zq10, zq20, zq7, zq12, zq24, zq40, zq41, zq48, zq100, zq120, zq123, zq480, zq492, zq700, zq729, zq2187, zq2916, zq8748, ne_eq, Int.reduceEq, Int.reduceLT, Int.reduceLE, Int.reduceToNat, Int.reduceMul, Int.reduceAdd, Int.reduceNeg, gk91 hg, gr91_5 hg, gr91_22 hg, gr91_23 hg, gr91_24 hg, gr91_25 hg, gr91_26 hg, gr91_27 hg, gr91_28 hg, gr91_29 hg, gr91_32 hg, gr91_33 hg, gr91_34 hg, gr91_35 hg, gr91_36 hg, gr91_37 hg, gr91_38 hg, gr91_39 hg, gr91_40 hg, gr91_41 hg, gr91_42 hg, gr91_44 hg, gr91_45 hg, gr91_46 hg, gr91_48 hg, gr91_49 hg, gr91_50 hg, gr91_51 hg, gr91_52 hg]
  apply m_isWord (d := d + 3) (id := 0) hg (by decide) c
  intro v0 z0 _
  have z0 := z0 q rfl
  unfold isW at z0
  rcases z0 with ⟨z, w⟩ | ⟨z, w⟩
  · subst z
    rw [if_pos w] at K
    simp only [e133_6, e133_9, e133_10, zs0, zsI, zsL, zsR, ztl1, ztl0, zc0, zcI, zcL, zcR, true_and, and_true, true_implies, false_implies, implies_true, not_true_eq_false, not_false_eq_true, and_self, Int.toNat_natCast, Nat.reduceAdd, Nat.reduceLeDiff, Nat.reduceLT, forall_eq', Option.some.injEq, zarR, zarI, zarL, zle, zq0, zq1, zq2, zq3, zq4, zq5, zq6, zq8, zq9, zq10, zq20, zq7, zq12, zq24, zq40, zq41, zq48, zq100, zq120, zq123, zq480, zq492, zq700, zq729, zq2187, zq2916, zq8748, ne_eq, Int.reduceEq, Int.reduceLT, Int.reduceLE, Int.reduceToNat, Int.reduceMul, Int.reduceAdd, Int.reduceNeg, gk91 hg, gr91_5 hg, gr91_22 hg, gr91_23 hg, gr91_24 hg, gr91_25 hg, gr91_26 hg, gr91_27 hg, gr91_28 hg, gr91_29 hg, gr91_32 hg, gr91_33 hg, gr91_34 hg, gr91_35 hg, gr91_36 hg, gr91_37 hg, gr91_38 hg, gr91_39 hg, gr91_40 hg, gr91_41 hg, gr91_42 hg, gr91_44 hg, gr91_45 hg, gr91_46 hg, gr91_48 hg, gr91_49 hg, gr91_50 hg, gr91_51 hg, gr91_52 hg]
    apply m_readBaker (d := d) hg hv c w.1 k hB
    intro h' f' s'
    simp only [e133_13, e133_69, zs0, zsI, zsL, zsR, ztl1, ztl0, zc0, zcI, zcL, zcR, true_and, and_true, true_implies, false_implies, implies_true, not_true_eq_false, not_false_eq_true, and_self, Int.toNat_natCast, Nat.reduceAdd, Nat.reduceLeDiff, Nat.reduceLT, forall_eq', Option.some.injEq, zarR, zarI, zarL, zle, zq0, zq1, zq2, zq3, zq4, zq5, zq6, zq8, zq9, zq10, zq20, zq7, zq12, zq24, zq40, zq41, zq48, zq100, zq120, zq123, zq480, zq492, zq700, zq729, zq2187, zq2916, zq8748, ne_eq, Int.reduceEq, Int.reduceLT, Int.reduceLE, Int.reduceToNat, Int.reduceMul, Int.reduceAdd, Int.reduceNeg]
    exact K h' f' s'
  subst z
  rw [if_neg w] at K
  simp only [e133_6, e133_16, e133_17, e133_19, zs0, zsI, zsL, zsR, ztl1, ztl0, zc0, zcI, zcL, zcR, true_and, and_true, true_implies, false_implies, implies_true, not_true_eq_false, not_false_eq_true, and_self, Int.toNat_natCast, Nat.reduceAdd, Nat.reduceLeDiff, Nat.reduceLT, forall_eq', Option.some.injEq, zarR, zarI, zarL, zle, zq0, zq1, zq2, zq3, zq4, zq5, zq6, zq8, zq9, zq10, zq20, zq7, zq12, zq24, zq40, zq41, zq48, zq100, zq120, zq123, zq480, zq492, zq700, zq729, zq2187, zq2916, zq8748, ne_eq, Int.reduceEq, Int.reduceLT, Int.reduceLE, Int.reduceToNat, Int.reduceMul, Int.reduceAdd, Int.reduceNeg, gk91 hg, gr91_5 hg, gr91_22 hg, gr91_23 hg, gr91_24 hg, gr91_25 hg, gr91_26 hg, gr91_27 hg, gr91_28 hg, gr91_29 hg, gr91_32 hg, gr91_33 hg, gr91_34 hg, gr91_35 hg, gr91_36 hg, gr91_37 hg, gr91_38 hg, gr91_39 hg, gr91_40 hg, gr91_41 hg, gr91_42 hg, gr91_44 hg, gr91_45 hg, gr91_46 hg, gr91_48 hg, gr91_49 hg, gr91_50 hg, gr91_51 hg, gr91_52 hg]
  apply m_isWord (d := d + 3) (id := 1) hg (by decide) c
  intro v0 z0 _
  have z0 := z0 q rfl
  unfold isW at z0
  rcases z0 with ⟨z, w⟩ | ⟨z, w⟩
  · subst z
    rw [if_pos w] at K
    simp only [e133_22, e133_25, e133_26, zs0, zsI, zsL, zsR, ztl1, ztl0, zc0, zcI, zcL, zcR, true_and, and_true, true_implies, false_implies, implies_true, not_true_eq_false, not_false_eq_true, and_self, Int.toNat_natCast, Nat.reduceAdd, Nat.reduceLeDiff, Nat.reduceLT, forall_eq', Option.some.injEq, zarR, zarI, zarL, zle, zq0, zq1, zq2, zq3, zq4, zq5, zq6, zq8, zq9, zq10, zq20, zq7, zq12, zq24, zq40, zq41, zq48, zq100, zq120, zq123, zq480, zq492, zq700, zq729, zq2187, zq2916, zq8748, ne_eq, Int.reduceEq, Int.reduceLT, Int.reduceLE, Int.reduceToNat, Int.reduceMul, Int.reduceAdd, Int.reduceNeg, gk91 hg, gr91_5 hg, gr91_22 hg, gr91_23 hg, gr91_24 hg, gr91_25 hg, gr91_26 hg, gr91_27 hg, gr91_28 hg, gr91_29 hg, gr91_32 hg, gr91_33 hg, gr91_34 hg, gr91_35 hg, gr91_36 hg, gr91_37 hg, gr91_38 hg, gr91_39 hg, gr91_40 hg, gr91_41 hg, gr91_42 hg, gr91_44 hg, gr91_45 hg, gr91_46 hg, gr91_48 hg, gr91_49 hg, gr91_50 hg, gr91_51 hg, gr91_52 hg]
    apply m_readSort (d := d) hg hv c w.1 k hB
    intro h' f' s'
    simp only [e133_29, e133_69, zs0, zsI, zsL, zsR, ztl1, ztl0, zc0, zcI, zcL, zcR, true_and, and_true, true_implies, false_implies, implies_true, not_true_eq_false, not_false_eq_true, and_self, Int.toNat_natCast, Nat.reduceAdd, Nat.reduceLeDiff, Nat.reduceLT, forall_eq', Option.some.injEq, zarR, zarI, zarL, zle, zq0, zq1, zq2, zq3, zq4, zq5, zq6, zq8, zq9, zq10, zq20, zq7, zq12, zq24, zq40, zq41, zq48, zq100, zq120, zq123, zq480, zq492, zq700, zq729, zq2187, zq2916, zq8748, ne_eq, Int.reduceEq, Int.reduceLT, Int.reduceLE, Int.reduceToNat, Int.reduceMul, Int.reduceAdd, Int.reduceNeg]
    exact K h' f' s'
  subst z
  rw [if_neg w] at K
  simp only [e133_22, e133_32, e133_33, e133_35, zs0, zsI, zsL, zsR, ztl1, ztl0, zc0, zcI, zcL, zcR, true_and, and_true, true_implies, false_implies, implies_true, not_true_eq_false, not_false_eq_true, and_self, Int.toNat_natCast, Nat.reduceAdd, Nat.reduceLeDiff, Nat.reduceLT, forall_eq', Option.some.injEq, zarR, zarI, zarL, zle, zq0, zq1, zq2, zq3, zq4, zq5, zq6, zq8, zq9, zq10, zq20, zq7, zq12, zq24, zq40, zq41, zq48, zq100, zq120, zq123, zq480, zq492, zq700, zq729, zq2187, zq2916, zq8748, ne_eq, Int.reduceEq, Int.reduceLT, Int.reduceLE, Int.reduceToNat, Int.reduceMul, Int.reduceAdd, Int.reduceNeg, gk91 hg, gr91_5 hg, gr91_22 hg, gr91_23 hg, gr91_24 hg, gr91_25 hg, gr91_26 hg, gr91_27 hg, gr91_28 hg, gr91_29 hg, gr91_32 hg, gr91_33 hg, gr91_34 hg, gr91_35 hg, gr91_36 hg, gr91_37 hg, gr91_38 hg, gr91_39 hg, gr91_40 hg, gr91_41 hg, gr91_42 hg, gr91_44 hg, gr91_45 hg, gr91_46 hg, gr91_48 hg, gr91_49 hg, gr91_50 hg, gr91_51 hg, gr91_52 hg]
  apply m_isWord (d := d + 3) (id := 2) hg (by decide) c
  intro v0 z0 _
  have z0 := z0 q rfl
  unfold isW at z0
  rcases z0 with ⟨z, w⟩ | ⟨z, w⟩
  · subst z
    rw [if_pos w] at K
    simp only [e133_38, e133_41, e133_42, zs0, zsI, zsL, zsR, ztl1, ztl0, zc0, zcI, zcL, zcR, true_and, and_true, true_implies, false_implies, implies_true, not_true_eq_false, not_false_eq_true, and_self, Int.toNat_natCast, Nat.reduceAdd, Nat.reduceLeDiff, Nat.reduceLT, forall_eq', Option.some.injEq, zarR, zarI, zarL, zle, zq0, zq1, zq2, zq3, zq4, zq5, zq6, zq8, zq9, zq10, zq20, zq7, zq12, zq24, zq40, zq41, zq48, zq100, zq120, zq123, zq480, zq492, zq700, zq729, zq2187, zq2916, zq8748, ne_eq, Int.reduceEq, Int.reduceLT, Int.reduceLE, Int.reduceToNat, Int.reduceMul, Int.reduceAdd, Int.reduceNeg, gk91 hg, gr91_5 hg, gr91_22 hg, gr91_23 hg, gr91_24 hg, gr91_25 hg, gr91_26 hg, gr91_27 hg, gr91_28 hg, gr91_29 hg, gr91_32 hg, gr91_33 hg, gr91_34 hg, gr91_35 hg, gr91_36 hg, gr91_37 hg, gr91_38 hg, gr91_39 hg, gr91_40 hg, gr91_41 hg, gr91_42 hg, gr91_44 hg, gr91_45 hg, gr91_46 hg, gr91_48 hg, gr91_49 hg, gr91_50 hg, gr91_51 hg, gr91_52 hg]
    apply m_readPrices (d := d + 1) hg hv c w.1 k hB hW
    intro h' f' s'
    simp only [e133_45, e133_69, zs0, zsI, zsL, zsR, ztl1, ztl0, zc0, zcI, zcL, zcR, true_and, and_true, true_implies, false_implies, implies_true, not_true_eq_false, not_false_eq_true, and_self, Int.toNat_natCast, Nat.reduceAdd, Nat.reduceLeDiff, Nat.reduceLT, forall_eq', Option.some.injEq, zarR, zarI, zarL, zle, zq0, zq1, zq2, zq3, zq4, zq5, zq6, zq8, zq9, zq10, zq20, zq7, zq12, zq24, zq40, zq41, zq48, zq100, zq120, zq123, zq480, zq492, zq700, zq729, zq2187, zq2916, zq8748, ne_eq, Int.reduceEq, Int.reduceLT, Int.reduceLE, Int.reduceToNat, Int.reduceMul, Int.reduceAdd, Int.reduceNeg]
    exact K h' f' s'
  subst z
  rw [if_neg w] at K
  simp only [e133_38, e133_48, e133_49, e133_51, zs0, zsI, zsL, zsR, ztl1, ztl0, zc0, zcI, zcL, zcR, true_and, and_true, true_implies, false_implies, implies_true, not_true_eq_false, not_false_eq_true, and_self, Int.toNat_natCast, Nat.reduceAdd, Nat.reduceLeDiff, Nat.reduceLT, forall_eq', Option.some.injEq, zarR, zarI, zarL, zle, zq0, zq1, zq2, zq3, zq4, zq5, zq6, zq8, zq9, zq10, zq20, zq7, zq12, zq24, zq40, zq41, zq48, zq100, zq120, zq123, zq480, zq492, zq700, zq729, zq2187, zq2916, zq8748, ne_eq, Int.reduceEq, Int.reduceLT, Int.reduceLE, Int.reduceToNat, Int.reduceMul, Int.reduceAdd, Int.reduceNeg, gk91 hg, gr91_5 hg, gr91_22 hg, gr91_23 hg, gr91_24 hg, gr91_25 hg, gr91_26 hg, gr91_27 hg, gr91_28 hg, gr91_29 hg, gr91_32 hg, gr91_33 hg, gr91_34 hg, gr91_35 hg, gr91_36 hg, gr91_37 hg, gr91_38 hg, gr91_39 hg, gr91_40 hg, gr91_41 hg, gr91_42 hg, gr91_44 hg, gr91_45 hg, gr91_46 hg, gr91_48 hg, gr91_49 hg, gr91_50 hg, gr91_51 hg, gr91_52 hg]
  apply m_isWord (d := d + 3) (id := 3) hg (by decide) c
  intro v0 z0 _
  have z0 := z0 q rfl
  unfold isW at z0
  rcases z0 with ⟨z, w⟩ | ⟨z, w⟩
  · subst z
    rw [if_pos w] at K
    simp only [e133_54, e133_57, e133_58, zs0, zsI, zsL, zsR, ztl1, ztl0, zc0, zcI, zcL, zcR, true_and, and_true, true_implies, false_implies, implies_true, not_true_eq_false, not_false_eq_true, and_self, Int.toNat_natCast, Nat.reduceAdd, Nat.reduceLeDiff, Nat.reduceLT, forall_eq', Option.some.injEq, zarR, zarI, zarL, zle, zq0, zq1, zq2, zq3, zq4, zq5, zq6, zq8, zq9, zq10, zq20, zq7, zq12, zq24, zq40, zq41, zq48, zq100, zq120, zq123, zq480, zq492, zq700, zq729, zq2187, zq2916, zq8748, ne_eq, Int.reduceEq, Int.reduceLT, Int.reduceLE, Int.reduceToNat, Int.reduceMul, Int.reduceAdd, Int.reduceNeg, gk91 hg, gr91_5 hg, gr91_22 hg, gr91_23 hg, gr91_24 hg, gr91_25 hg, gr91_26 hg, gr91_27 hg, gr91_28 hg, gr91_29 hg, gr91_32 hg, gr91_33 hg, gr91_34 hg, gr91_35 hg, gr91_36 hg, gr91_37 hg, gr91_38 hg, gr91_39 hg, gr91_40 hg, gr91_41 hg, gr91_42 hg, gr91_44 hg, gr91_45 hg, gr91_46 hg, gr91_48 hg, gr91_49 hg, gr91_50 hg, gr91_51 hg, gr91_52 hg]
    apply m_readKeep (d := d + 1) hg hv c w k hB hW
    intro h' f' s'
    simp only [e133_61, e133_69, zs0, zsI, zsL, zsR, ztl1, ztl0, zc0, zcI, zcL, zcR, true_and, and_true, true_implies, false_implies, implies_true, not_true_eq_false, not_false_eq_true, and_self, Int.toNat_natCast, Nat.reduceAdd, Nat.reduceLeDiff, Nat.reduceLT, forall_eq', Option.some.injEq, zarR, zarI, zarL, zle, zq0, zq1, zq2, zq3, zq4, zq5, zq6, zq8, zq9, zq10, zq20, zq7, zq12, zq24, zq40, zq41, zq48, zq100, zq120, zq123, zq480, zq492, zq700, zq729, zq2187, zq2916, zq8748, ne_eq, Int.reduceEq, Int.reduceLT, Int.reduceLE, Int.reduceToNat, Int.reduceMul, Int.reduceAdd, Int.reduceNeg]
    exact K h' f' s'
  subst z
  rw [if_neg w] at K
  have wr1 := fun Q' => m_wrong (d := d + 3) (Q := Q') (h := h) (a := 1) hg (MS_9 c)
  simp only [e133_54, e133_64, e133_65, e133_66, e133_69, zs0, zsI, zsL, zsR, ztl1, ztl0, zc0, zcI, zcL, zcR, true_and, and_true, true_implies, false_implies, implies_true, not_true_eq_false, not_false_eq_true, and_self, Int.toNat_natCast, Nat.reduceAdd, Nat.reduceLeDiff, Nat.reduceLT, forall_eq', Option.some.injEq, zarR, zarI, zarL, zle, zq0, zq1, zq2, zq3, zq4, zq5, zq6, zq8, zq9, zq10, zq20, zq7, zq12, zq24, zq40, zq41, zq48, zq100, zq120, zq123, zq480, zq492, zq700, zq729, zq2187, zq2916, zq8748, ne_eq, Int.reduceEq, Int.reduceLT, Int.reduceLE, Int.reduceToNat, Int.reduceMul, Int.reduceAdd, Int.reduceNeg, gk91 hg, gr91_5 hg, gr91_22 hg, gr91_23 hg, gr91_24 hg, gr91_25 hg, gr91_26 hg, gr91_27 hg, gr91_28 hg, gr91_29 hg, gr91_32 hg, gr91_33 hg, gr91_34 hg, gr91_35 hg, gr91_36 hg, gr91_37 hg, gr91_38 hg, gr91_39 hg, gr91_40 hg, gr91_41 hg, gr91_42 hg, gr91_44 hg, gr91_45 hg, gr91_46 hg, gr91_48 hg, gr91_49 hg, gr91_50 hg, gr91_51 hg, gr91_52 hg, wr1]
  have c2 := MS_die c (a := 1) (b := h 91 10) (by decide)
  rw [c.2.2.2.2.1] at c2 ⊢
  exact K _ mfm_die.fm c2
def RM' (tp : Nat → Int) (n u : Nat) (r : pE ⊕ pD) (h : zM) : Prop := match r with
  | .inl e => 0 < e.1 ∧ h 91 13 = e.1 ∧ h 91 14 = e.2
  | .inr D => h 91 13 = 0 ∧ DM tp u h D ∧ DB tp n D ∧ WB D.1 ∧ ¬ (nB D.1 < 2 ∨ nS D.1 < 1 ∨ nP D.1 = 0 ∨ D.2.2 = 0)
theorem so_1 {k : Nat} (h : ¬ k = 0) : ¬ soK k = 1 := by
  unfold soK
  rw [if_neg h]
  split
  · decide
  · split
    · decide
    · split <;> decide
/-- behind the lines -/
theorem m_townEnd (hg : gS G) (hv : gV G u) {s : pE ⊕ (Nat × pD)} (c : LM tp n u s h) (hB : ∀ p, s = .inr p → p.1 ≤ n ∧ DB tp n p.2 ∧ WB p.2.1) (K : ∀ h' : zM, fm u h h' → RM' tp n u (pLk n (match s with | .inl e => .inl e | .inr p => if kd tp n p.1 = 0 then .inr p else .inl (1, (st tp n p.1 : Nat)))) h' → Q none G h') : zE 132 (d + 6) Q 20 [some (zR (some 91)), some (zI 0)] [] G h (0, 0) := by
  have u121 : 121 ≤ u := hv.1
  have dead : ∀ (e : pE) (g : zM), MS tp n (.inl e) g → Q none G g → zE 132 (d + 6) Q 33 [some (zR (some 91)), some (zI 0)] [] G g (0, 0) := by
    intro e g c1 kk
    have w := fun Q' => m_wrong' (d := d + 4) (Q := Q') (h := g) (a := 6) hg c1.2.1
    simp only [e132_33, e132_34, e132_37, e132_40, e132_41, e132_44, e132_45, e132_48, e132_51, e132_54, e132_55, e132_58, e132_61, e132_64, e132_65, e132_68, e132_71, e132_72, e132_75, e132_76, e132_78, e132_81, zs0, zsI, zsL, zsR, ztl1, ztl0, zc0, zcI, zcL, zcR, true_and, and_true, true_implies, false_implies, implies_true, not_true_eq_false, not_false_eq_true, and_self, Int.toNat_natCast, Nat.reduceAdd, Nat.reduceLeDiff, Nat.reduceLT, forall_eq', Option.some.injEq, zarR, zarI, zarL, zle, zq0, zq1, zq2, zq3, zq4, zq5, zq6, zq8, zq9, zq10, zq20, zq7, zq12, zq24, zq40, zq41, zq48, zq100, zq120, zq123, zq480, zq492, zq700, zq729, zq2187, zq2916, zq8748, ne_eq, Int.reduceEq, Int.reduceLT, Int.reduceLE, Int.reduceToNat, Int.reduceMul, Int.reduceAdd, Int.reduceNeg, gk91 hg, gr91_5 hg, gr91_22 hg, gr91_23 hg, gr91_24 hg, gr91_25 hg, gr91_26 hg, gr91_27 hg, gr91_28 hg, gr91_29 hg, gr91_32 hg, gr91_33 hg, gr91_34 hg, gr91_35 hg, gr91_36 hg, gr91_37 hg, gr91_38 hg, gr91_39 hg, gr91_40 hg, gr91_41 hg, gr91_42 hg, gr91_44 hg, gr91_45 hg, gr91_46 hg, gr91_48 hg, gr91_49 hg, gr91_50 hg, gr91_51 hg, gr91_52 hg, hv, w]
    refine ⟨fun _ => kk, fun _ => ⟨fun _ => kk, fun _ => ⟨fun _ => kk, fun _ => ⟨fun _ => kk, fun _ => kk⟩⟩⟩⟩
  rcases s with e | p
  · have c' : MS tp n (.inl e) h := c
    have h9 := c'.2.1
    have n1 : ¬ (5 : Int) = 1 := by decide
    have w := fun Q' => m_wrong' (d := d + 4) (Q := Q') (h := h) (a := 1) hg h9
    simp only [e132_20, e132_21, e132_24, e132_25, e132_28, e132_29, e132_30, zs0, zsI, zsL, zsR, ztl1, ztl0, zc0, zcI, zcL, zcR, true_and, and_true, true_implies, false_implies, implies_true, not_true_eq_false, not_false_eq_true, and_self, Int.toNat_natCast, Nat.reduceAdd, Nat.reduceLeDiff, Nat.reduceLT, forall_eq', Option.some.injEq, zarR, zarI, zarL, zle, zq0, zq1, zq2, zq3, zq4, zq5, zq6, zq8, zq9, zq10, zq20, zq7, zq12, zq24, zq40, zq41, zq48, zq100, zq120, zq123, zq480, zq492, zq700, zq729, zq2187, zq2916, zq8748, ne_eq, Int.reduceEq, Int.reduceLT, Int.reduceLE, Int.reduceToNat, Int.reduceMul, Int.reduceAdd, Int.reduceNeg, gk91 hg, gr91_5 hg, gr91_22 hg, gr91_23 hg, gr91_24 hg, gr91_25 hg, gr91_26 hg, gr91_27 hg, gr91_28 hg, gr91_29 hg, gr91_32 hg, gr91_33 hg, gr91_34 hg, gr91_35 hg, gr91_36 hg, gr91_37 hg, gr91_38 hg, gr91_39 hg, gr91_40 hg, gr91_41 hg, gr91_42 hg, gr91_44 hg, gr91_45 hg, gr91_46 hg, gr91_48 hg, gr91_49 hg, gr91_50 hg, gr91_51 hg, gr91_52 hg, h9, w]
    exact dead e h c' (K h (fun _ _ _ _ => rfl) ⟨c'.2.2.1, c'.2.2.2.1, c'.2.2.2.2⟩)
  · obtain ⟨cs, k⟩ := c
    obtain ⟨pn, hB, hW⟩ := hB p rfl
    have t := cs.2.2
    dsimp only at K
    by_cases k0 : kd tp n p.1 = 0
    · rw [if_pos k0] at K
      have h9 : h 91 9 = 1 := by rw [t.2.1, k0]; rfl
      have e10 : h 91 10 = (n : Int) := by rw [t.2.2.1, (kd_0 pn k0).1]
      obtain ⟨⟨r1, r2, r3, r4⟩, rtw, rkp, rL⟩ := id k
      simp only [e132_20, e132_21, e132_24, e132_25, e132_28, e132_29, e132_30, zs0, zsI, zsL, zsR, ztl1, ztl0, zc0, zcI, zcL, zcR, true_and, and_true, true_implies, false_implies, implies_true, not_true_eq_false, not_false_eq_true, and_self, Int.toNat_natCast, Nat.reduceAdd, Nat.reduceLeDiff, Nat.reduceLT, forall_eq', Option.some.injEq, zarR, zarI, zarL, zle, zq0, zq1, zq2, zq3, zq4, zq5, zq6, zq8, zq9, zq10, zq20, zq7, zq12, zq24, zq40, zq41, zq48, zq100, zq120, zq123, zq480, zq492, zq700, zq729, zq2187, zq2916, zq8748, ne_eq, Int.reduceEq, Int.reduceLT, Int.reduceLE, Int.reduceToNat, Int.reduceMul, Int.reduceAdd, Int.reduceNeg, gk91 hg, gr91_5 hg, gr91_22 hg, gr91_23 hg, gr91_24 hg, gr91_25 hg, gr91_26 hg, gr91_27 hg, gr91_28 hg, gr91_29 hg, gr91_32 hg, gr91_33 hg, gr91_34 hg, gr91_35 hg, gr91_36 hg, gr91_37 hg, gr91_38 hg, gr91_39 hg, gr91_40 hg, gr91_41 hg, gr91_42 hg, gr91_44 hg, gr91_45 hg, gr91_46 hg, gr91_48 hg, gr91_49 hg, gr91_50 hg, gr91_51 hg, gr91_52 hg, h9]
      unfold pLk at K
      dsimp only at K
      by_cases lk : nB p.2.1 < 2 ∨ nS p.2.1 < 1 ∨ nP p.2.1 = 0 ∨ p.2.2.2 = 0
      · rw [if_pos lk] at K
        have w := fun Q' => m_wrong (d := d + 4) (Q := Q') (h := h) (a := 6) hg (MS_9 cs)
        have c2 := MS_die cs (a := 6) (b := h 91 10) (by decide)
        rw [e10] at c2 w
        have kk := K _ mfm_die.fm ⟨c2.2.2.1, c2.2.2.2.1, c2.2.2.2.2⟩
        have fl : zE 132 (d + 6) Q 75 [some (zR (some 91)), some (zI 0)] [] G h (0, 0) := by
          simp only [e132_75, e132_76, e132_78, e132_81, zs0, zsI, zsL, zsR, ztl1, ztl0, zc0, zcI, zcL, zcR, true_and, and_true, true_implies, false_implies, implies_true, not_true_eq_false, not_false_eq_true, and_self, Int.toNat_natCast, Nat.reduceAdd, Nat.reduceLeDiff, Nat.reduceLT, forall_eq', Option.some.injEq, zarR, zarI, zarL, zle, zq0, zq1, zq2, zq3, zq4, zq5, zq6, zq8, zq9, zq10, zq20, zq7, zq12, zq24, zq40, zq41, zq48, zq100, zq120, zq123, zq480, zq492, zq700, zq729, zq2187, zq2916, zq8748, ne_eq, Int.reduceEq, Int.reduceLT, Int.reduceLE, Int.reduceToNat, Int.reduceMul, Int.reduceAdd, Int.reduceNeg, gk91 hg, gr91_5 hg, gr91_22 hg, gr91_23 hg, gr91_24 hg, gr91_25 hg, gr91_26 hg, gr91_27 hg, gr91_28 hg, gr91_29 hg, gr91_32 hg, gr91_33 hg, gr91_34 hg, gr91_35 hg, gr91_36 hg, gr91_37 hg, gr91_38 hg, gr91_39 hg, gr91_40 hg, gr91_41 hg, gr91_42 hg, gr91_44 hg, gr91_45 hg, gr91_46 hg, gr91_48 hg, gr91_49 hg, gr91_50 hg, gr91_51 hg, gr91_52 hg, w]
          exact kk
        by_cases l1 : nB p.2.1 < 2
        · have l1' : ((nB p.2.1 : Nat) : Int) < 2 := by omega
          simp only [e132_33, e132_34, e132_37, e132_40, e132_41, e132_44, e132_45, e132_48, e132_51, e132_54, e132_55, e132_58, e132_61, e132_64, e132_65, e132_68, e132_71, e132_72, zs0, zsI, zsL, zsR, ztl1, ztl0, zc0, zcI, zcL, zcR, true_and, and_true, true_implies, false_implies, implies_true, not_true_eq_false, not_false_eq_true, and_self, Int.toNat_natCast, Nat.reduceAdd, Nat.reduceLeDiff, Nat.reduceLT, forall_eq', Option.some.injEq, zarR, zarI, zarL, zle, zq0, zq1, zq2, zq3, zq4, zq5, zq6, zq8, zq9, zq10, zq20, zq7, zq12, zq24, zq40, zq41, zq48, zq100, zq120, zq123, zq480, zq492, zq700, zq729, zq2187, zq2916, zq8748, ne_eq, Int.reduceEq, Int.reduceLT, Int.reduceLE, Int.reduceToNat, Int.reduceMul, Int.reduceAdd, Int.reduceNeg, gk91 hg, gr91_5 hg, gr91_22 hg, gr91_23 hg, gr91_24 hg, gr91_25 hg, gr91_26 hg, gr91_27 hg, gr91_28 hg, gr91_29 hg, gr91_32 hg, gr91_33 hg, gr91_34 hg, gr91_35 hg, gr91_36 hg, gr91_37 hg, gr91_38 hg, gr91_39 hg, gr91_40 hg, gr91_41 hg, gr91_42 hg, gr91_44 hg, gr91_45 hg, gr91_46 hg, gr91_48 hg, gr91_49 hg, gr91_50 hg, gr91_51 hg, gr91_52 hg, hv, r1, l1']
          exact fl
        have l1' : ¬ ((nB p.2.1 : Nat) : Int) < 2 := by omega
        by_cases l2 : nS p.2.1 < 1
        · have l2' : ((nS p.2.1 : Nat) : Int) = 0 := by omega
          simp only [e132_33, e132_34, e132_37, e132_40, e132_41, e132_44, e132_45, e132_48, e132_51, e132_54, e132_55, e132_58, e132_61, e132_64, e132_65, e132_68, e132_71, e132_72, zs0, zsI, zsL, zsR, ztl1, ztl0, zc0, zcI, zcL, zcR, true_and, and_true, true_implies, false_implies, implies_true, not_true_eq_false, not_false_eq_true, and_self, Int.toNat_natCast, Nat.reduceAdd, Nat.reduceLeDiff, Nat.reduceLT, forall_eq', Option.some.injEq, zarR, zarI, zarL, zle, zq0, zq1, zq2, zq3, zq4, zq5, zq6, zq8, zq9, zq10, zq20, zq7, zq12, zq24, zq40, zq41, zq48, zq100, zq120, zq123, zq480, zq492, zq700, zq729, zq2187, zq2916, zq8748, ne_eq, Int.reduceEq, Int.reduceLT, Int.reduceLE, Int.reduceToNat, Int.reduceMul, Int.reduceAdd, Int.reduceNeg, gk91 hg, gr91_5 hg, gr91_22 hg, gr91_23 hg, gr91_24 hg, gr91_25 hg, gr91_26 hg, gr91_27 hg, gr91_28 hg, gr91_29 hg, gr91_32 hg, gr91_33 hg, gr91_34 hg, gr91_35 hg, gr91_36 hg, gr91_37 hg, gr91_38 hg, gr91_39 hg, gr91_40 hg, gr91_41 hg, gr91_42 hg, gr91_44 hg, gr91_45 hg, gr91_46 hg, gr91_48 hg, gr91_49 hg, gr91_50 hg, gr91_51 hg, gr91_52 hg, hv, r1, l1', r2, l2']
          exact fl
        have l2' : ¬ ((nS p.2.1 : Nat) : Int) = 0 := by omega
        by_cases l3 : nP p.2.1 = 0
        · have l3' : ((nP p.2.1 : Nat) : Int) = 0 := by omega
          simp only [e132_33, e132_34, e132_37, e132_40, e132_41, e132_44, e132_45, e132_48, e132_51, e132_54, e132_55, e132_58, e132_61, e132_64, e132_65, e132_68, e132_71, e132_72, zs0, zsI, zsL, zsR, ztl1, ztl0, zc0, zcI, zcL, zcR, true_and, and_true, true_implies, false_implies, implies_true, not_true_eq_false, not_false_eq_true, and_self, Int.toNat_natCast, Nat.reduceAdd, Nat.reduceLeDiff, Nat.reduceLT, forall_eq', Option.some.injEq, zarR, zarI, zarL, zle, zq0, zq1, zq2, zq3, zq4, zq5, zq6, zq8, zq9, zq10, zq20, zq7, zq12, zq24, zq40, zq41, zq48, zq100, zq120, zq123, zq480, zq492, zq700, zq729, zq2187, zq2916, zq8748, ne_eq, Int.reduceEq, Int.reduceLT, Int.reduceLE, Int.reduceToNat, Int.reduceMul, Int.reduceAdd, Int.reduceNeg, gk91 hg, gr91_5 hg, gr91_22 hg, gr91_23 hg, gr91_24 hg, gr91_25 hg, gr91_26 hg, gr91_27 hg, gr91_28 hg, gr91_29 hg, gr91_32 hg, gr91_33 hg, gr91_34 hg, gr91_35 hg, gr91_36 hg, gr91_37 hg, gr91_38 hg, gr91_39 hg, gr91_40 hg, gr91_41 hg, gr91_42 hg, gr91_44 hg, gr91_45 hg, gr91_46 hg, gr91_48 hg, gr91_49 hg, gr91_50 hg, gr91_51 hg, gr91_52 hg, hv, r1, l1', r2, l2', r3, l3']
          exact fl
        have l3' : ¬ ((nP p.2.1 : Nat) : Int) = 0 := by omega
        rw [if_pos (by omega)] at rkp
        simp only [e132_33, e132_34, e132_37, e132_40, e132_41, e132_44, e132_45, e132_48, e132_51, e132_54, e132_55, e132_58, e132_61, e132_64, e132_65, e132_68, e132_71, e132_72, zs0, zsI, zsL, zsR, ztl1, ztl0, zc0, zcI, zcL, zcR, true_and, and_true, true_implies, false_implies, implies_true, not_true_eq_false, not_false_eq_true, and_self, Int.toNat_natCast, Nat.reduceAdd, Nat.reduceLeDiff, Nat.reduceLT, forall_eq', Option.some.injEq, zarR, zarI, zarL, zle, zq0, zq1, zq2, zq3, zq4, zq5, zq6, zq8, zq9, zq10, zq20, zq7, zq12, zq24, zq40, zq41, zq48, zq100, zq120, zq123, zq480, zq492, zq700, zq729, zq2187, zq2916, zq8748, ne_eq, Int.reduceEq, Int.reduceLT, Int.reduceLE, Int.reduceToNat, Int.reduceMul, Int.reduceAdd, Int.reduceNeg, gk91 hg, gr91_5 hg, gr91_22 hg, gr91_23 hg, gr91_24 hg, gr91_25 hg, gr91_26 hg, gr91_27 hg, gr91_28 hg, gr91_29 hg, gr91_32 hg, gr91_33 hg, gr91_34 hg, gr91_35 hg, gr91_36 hg, gr91_37 hg, gr91_38 hg, gr91_39 hg, gr91_40 hg, gr91_41 hg, gr91_42 hg, gr91_44 hg, gr91_45 hg, gr91_46 hg, gr91_48 hg, gr91_49 hg, gr91_50 hg, gr91_51 hg, gr91_52 hg, hv, r1, l1', r2, l2', r3, l3', rkp]
        exact fl
      · rw [if_neg lk] at K
        have kk := K h (fun _ _ _ _ => rfl) ⟨cs.2.1, k, hB, hW, lk⟩
        have l1' : ¬ ((nB p.2.1 : Nat) : Int) < 2 := by omega
        have l2' : ¬ ((nS p.2.1 : Nat) : Int) = 0 := by omega
        have l3' : ¬ ((nP p.2.1 : Nat) : Int) = 0 := by omega
        rw [if_neg (by omega)] at rkp
        have kp0 := hW.2.1.1
        have n1 : ¬ kp p.2.1 = -1 := by omega
        simp only [e132_33, e132_34, e132_37, e132_40, e132_41, e132_44, e132_45, e132_48, e132_51, e132_54, e132_55, e132_58, e132_61, e132_64, e132_65, e132_68, e132_71, e132_72, e132_75, e132_76, e132_78, e132_81, zs0, zsI, zsL, zsR, ztl1, ztl0, zc0, zcI, zcL, zcR, true_and, and_true, true_implies, false_implies, implies_true, not_true_eq_false, not_false_eq_true, and_self, Int.toNat_natCast, Nat.reduceAdd, Nat.reduceLeDiff, Nat.reduceLT, forall_eq', Option.some.injEq, zarR, zarI, zarL, zle, zq0, zq1, zq2, zq3, zq4, zq5, zq6, zq8, zq9, zq10, zq20, zq7, zq12, zq24, zq40, zq41, zq48, zq100, zq120, zq123, zq480, zq492, zq700, zq729, zq2187, zq2916, zq8748, ne_eq, Int.reduceEq, Int.reduceLT, Int.reduceLE, Int.reduceToNat, Int.reduceMul, Int.reduceAdd, Int.reduceNeg, gk91 hg, gr91_5 hg, gr91_22 hg, gr91_23 hg, gr91_24 hg, gr91_25 hg, gr91_26 hg, gr91_27 hg, gr91_28 hg, gr91_29 hg, gr91_32 hg, gr91_33 hg, gr91_34 hg, gr91_35 hg, gr91_36 hg, gr91_37 hg, gr91_38 hg, gr91_39 hg, gr91_40 hg, gr91_41 hg, gr91_42 hg, gr91_44 hg, gr91_45 hg, gr91_46 hg, gr91_48 hg, gr91_49 hg, gr91_50 hg, gr91_51 hg, gr91_52 hg, hv, r1, l1', r2, l2', r3, l3', rkp, n1]
        exact kk
    · rw [if_neg k0] at K
      have h9 : ¬ h 91 9 = 1 := by rw [t.2.1]; exact so_1 k0
      have w := fun Q' => m_wrong (d := d + 4) (Q := Q') (h := h) (a := 1) hg (MS_9 cs)
      simp only [e132_20, e132_21, e132_24, e132_25, e132_28, e132_29, e132_30, zs0, zsI, zsL, zsR, ztl1, ztl0, zc0, zcI, zcL, zcR, true_and, and_true, true_implies, false_implies, implies_true, not_true_eq_false, not_false_eq_true, and_self, Int.toNat_natCast, Nat.reduceAdd, Nat.reduceLeDiff, Nat.reduceLT, forall_eq', Option.some.injEq, zarR, zarI, zarL, zle, zq0, zq1, zq2, zq3, zq4, zq5, zq6, zq8, zq9, zq10, zq20, zq7, zq12, zq24, zq40, zq41, zq48, zq100, zq120, zq123, zq480, zq492, zq700, zq729, zq2187, zq2916, zq8748, ne_eq, Int.reduceEq, Int.reduceLT, Int.reduceLE, Int.reduceToNat, Int.reduceMul, Int.reduceAdd, Int.reduceNeg, gk91 hg, gr91_5 hg, gr91_22 hg, gr91_23 hg, gr91_24 hg, gr91_25 hg, gr91_26 hg, gr91_27 hg, gr91_28 hg, gr91_29 hg, gr91_32 hg, gr91_33 hg, gr91_34 hg, gr91_35 hg, gr91_36 hg, gr91_37 hg, gr91_38 hg, gr91_39 hg, gr91_40 hg, gr91_41 hg, gr91_42 hg, gr91_44 hg, gr91_45 hg, gr91_46 hg, gr91_48 hg, gr91_49 hg, gr91_50 hg, gr91_51 hg, gr91_52 hg, h9, w]
      have c2 := MS_die cs (a := 1) (b := h 91 10) (by decide)
      rw [cs.2.2.2.2.1] at c2 ⊢
      exact dead _ _ c2 (K _ mfm_die.fm ⟨c2.2.2.1, c2.2.2.2.1, c2.2.2.2.2⟩)
theorem m_townLoop (hg : gS G) (hv : gV G u) (k : Nat) {i : Nat} (hi : i + k = 701) {q : Nat} {D : pD} {h : zM} (c : MS tp n (.inr q) h) (hq : i ≤ q) (kD : DM tp u h D) (hB : DB tp n D) (hW : WB D.1) (K : ∀ h' : zM, fm u h h' → RM' tp n u (pLk n (pR tp n k D q)) h' → Q none G h') : zE 132 (d + 6) Q 2 [some (zR (some 91)), some (zI 1)] [] G h (0, 0) := by
  induction k generalizing i q D h with
  | zero =>
    have := c.2.2.1
    have := c.1.2.1
    omega
  | succ k ih =>
    have u121 : 121 ≤ u := hv.1
    have qn := c.2.2.1
    rw [e132_2]
    simp only [e132_3, e132_6, e132_7, zs0, zsI, zsL, zsR, ztl1, ztl0, zc0, zcI, zcL, zcR, true_and, and_true, true_implies, false_implies, implies_true, not_true_eq_false, not_false_eq_true, and_self, Int.toNat_natCast, Nat.reduceAdd, Nat.reduceLeDiff, Nat.reduceLT, forall_eq', Option.some.injEq, zarR, zarI, zarL, zle, zq0, zq1, zq2, zq3, zq4, zq5, zq6, zq8, zq9, zq10, zq20, zq7, zq12, zq24, zq40, zq41, zq48, zq100, zq120, zq123, zq480, zq492, zq700, zq729, zq2187, zq2916, zq8748, ne_eq, Int.reduceEq, Int.reduceLT, Int.reduceLE, Int.reduceToNat, Int.reduceMul, Int.reduceAdd, Int.reduceNeg, gk91 hg, gr91_5 hg, gr91_22 hg, gr91_23 hg, gr91_24 hg, gr91_25 hg, gr91_26 hg, gr91_27 hg, gr91_28 hg, gr91_29 hg, gr91_32 hg, gr91_33 hg, gr91_34 hg, gr91_35 hg, gr91_36 hg, gr91_37 hg, gr91_38 hg, gr91_39 hg, gr91_40 hg, gr91_41 hg, gr91_42 hg, gr91_44 hg, gr91_45 hg, gr91_46 hg, gr91_48 hg, gr91_49 hg, gr91_50 hg, gr91_51 hg, gr91_52 hg]
    apply m_line (d := d) hg hv c kD hB hW
    intro h1 f1 s1
    unfold pR at K
    cases hp : pLn tp n D q with
    | inl e =>
      rw [hp] at s1 K
      have s1' : MS tp n (.inl e) h1 := s1
      simp only [e132_10, e132_11, e132_13, zs0, zsI, zsL, zsR, ztl1, ztl0, zc0, zcI, zcL, zcR, true_and, and_true, true_implies, false_implies, implies_true, not_true_eq_false, not_false_eq_true, and_self, Int.toNat_natCast, Nat.reduceAdd, Nat.reduceLeDiff, Nat.reduceLT, forall_eq', Option.some.injEq, zarR, zarI, zarL, zle, zq0, zq1, zq2, zq3, zq4, zq5, zq6, zq8, zq9, zq10, zq20, zq7, zq12, zq24, zq40, zq41, zq48, zq100, zq120, zq123, zq480, zq492, zq700, zq729, zq2187, zq2916, zq8748, ne_eq, Int.reduceEq, Int.reduceLT, Int.reduceLE, Int.reduceToNat, Int.reduceMul, Int.reduceAdd, Int.reduceNeg, gk91 hg, gr91_5 hg, gr91_22 hg, gr91_23 hg, gr91_24 hg, gr91_25 hg, gr91_26 hg, gr91_27 hg, gr91_28 hg, gr91_29 hg, gr91_32 hg, gr91_33 hg, gr91_34 hg, gr91_35 hg, gr91_36 hg, gr91_37 hg, gr91_38 hg, gr91_39 hg, gr91_40 hg, gr91_41 hg, gr91_42 hg, gr91_44 hg, gr91_45 hg, gr91_46 hg, gr91_48 hg, gr91_49 hg, gr91_50 hg, gr91_51 hg, gr91_52 hg]
      apply m_eats (d := d + 3) (k := 3) hg s1' (Or.inl ⟨rfl, rfl⟩)
      intro v h2 f2 _ z2
      obtain ⟨v0, e2⟩ := z2 e rfl
      subst v0 e2
      simp only [e132_16, e132_17, zs0, zsI, zsL, zsR, ztl1, ztl0, zc0, zcI, zcL, zcR, true_and, and_true, true_implies, false_implies, implies_true, not_true_eq_false, not_false_eq_true, and_self, Int.toNat_natCast, Nat.reduceAdd, Nat.reduceLeDiff, Nat.reduceLT, forall_eq', Option.some.injEq, zarR, zarI, zarL, zle, zq0, zq1, zq2, zq3, zq4, zq5, zq6, zq8, zq9, zq10, zq20, zq7, zq12, zq24, zq40, zq41, zq48, zq100, zq120, zq123, zq480, zq492, zq700, zq729, zq2187, zq2916, zq8748, ne_eq, Int.reduceEq, Int.reduceLT, Int.reduceLE, Int.reduceToNat, Int.reduceMul, Int.reduceAdd, Int.reduceNeg]
      rw [e132_2]
      simp only [e132_3, zs0, zsI, zsL, zsR, ztl1, ztl0, zc0, zcI, zcL, zcR, true_and, and_true, true_implies, false_implies, implies_true, not_true_eq_false, not_false_eq_true, and_self, Int.toNat_natCast, Nat.reduceAdd, Nat.reduceLeDiff, Nat.reduceLT, forall_eq', Option.some.injEq, zarR, zarI, zarL, zle, zq0, zq1, zq2, zq3, zq4, zq5, zq6, zq8, zq9, zq10, zq20, zq7, zq12, zq24, zq40, zq41, zq48, zq100, zq120, zq123, zq480, zq492, zq700, zq729, zq2187, zq2916, zq8748, ne_eq, Int.reduceEq, Int.reduceLT, Int.reduceLE, Int.reduceToNat, Int.reduceMul, Int.reduceAdd, Int.reduceNeg]
      apply m_townEnd (s := .inl e) hg hv s1 (fun p z => by cases z)
      intro h3 f3 r3
      exact K h3 (f1.tr f3) r3
    | inr p =>
      rw [hp] at s1 K
      dsimp only at K
      have ok := pLn_ok qn hB hW hp
      obtain ⟨s1, D1⟩ := s1
      simp only [e132_10, e132_11, e132_13, zs0, zsI, zsL, zsR, ztl1, ztl0, zc0, zcI, zcL, zcR, true_and, and_true, true_implies, false_implies, implies_true, not_true_eq_false, not_false_eq_true, and_self, Int.toNat_natCast, Nat.reduceAdd, Nat.reduceLeDiff, Nat.reduceLT, forall_eq', Option.some.injEq, zarR, zarI, zarL, zle, zq0, zq1, zq2, zq3, zq4, zq5, zq6, zq8, zq9, zq10, zq20, zq7, zq12, zq24, zq40, zq41, zq48, zq100, zq120, zq123, zq480, zq492, zq700, zq729, zq2187, zq2916, zq8748, ne_eq, Int.reduceEq, Int.reduceLT, Int.reduceLE, Int.reduceToNat, Int.reduceMul, Int.reduceAdd, Int.reduceNeg, gk91 hg, gr91_5 hg, gr91_22 hg, gr91_23 hg, gr91_24 hg, gr91_25 hg, gr91_26 hg, gr91_27 hg, gr91_28 hg, gr91_29 hg, gr91_32 hg, gr91_33 hg, gr91_34 hg, gr91_35 hg, gr91_36 hg, gr91_37 hg, gr91_38 hg, gr91_39 hg, gr91_40 hg, gr91_41 hg, gr91_42 hg, gr91_44 hg, gr91_45 hg, gr91_46 hg, gr91_48 hg, gr91_49 hg, gr91_50 hg, gr91_51 hg, gr91_52 hg]
      apply m_eats (d := d + 3) (k := 3) hg s1 (Or.inl ⟨rfl, rfl⟩)
      intro v h2 f2 z2 _
      rcases z2 p.1 rfl with ⟨v1, k3, c2⟩ | ⟨v1, k3, e2⟩
      · subst v1
        rw [if_neg (by omega), if_pos k3] at K
        have nx := nxt_b (tp := tp) p.1 ok.2.1
        have := nx.2.2 (by omega)
        simp only [e132_16, e132_17, zs0, zsI, zsL, zsR, ztl1, ztl0, zc0, zcI, zcL, zcR, true_and, and_true, true_implies, false_implies, implies_true, not_true_eq_false, not_false_eq_true, and_self, Int.toNat_natCast, Nat.reduceAdd, Nat.reduceLeDiff, Nat.reduceLT, forall_eq', Option.some.injEq, zarR, zarI, zarL, zle, zq0, zq1, zq2, zq3, zq4, zq5, zq6, zq8, zq9, zq10, zq20, zq7, zq12, zq24, zq40, zq41, zq48, zq100, zq120, zq123, zq480, zq492, zq700, zq729, zq2187, zq2916, zq8748, ne_eq, Int.reduceEq, Int.reduceLT, Int.reduceLE, Int.reduceToNat, Int.reduceMul, Int.reduceAdd, Int.reduceNeg]
        apply ih (i := i + 1) (by omega) c2 (by omega) (DM_fr D1 (fun c i z => f2 c i (by omega))) ok.2.2.1 ok.2.2.2
        intro h3 f3 r3
        exact K h3 (f1.tr (f2.fm.tr f3)) r3
      · subst v1 e2
        simp only [e132_16, e132_17, zs0, zsI, zsL, zsR, ztl1, ztl0, zc0, zcI, zcL, zcR, true_and, and_true, true_implies, false_implies, implies_true, not_true_eq_false, not_false_eq_true, and_self, Int.toNat_natCast, Nat.reduceAdd, Nat.reduceLeDiff, Nat.reduceLT, forall_eq', Option.some.injEq, zarR, zarI, zarL, zle, zq0, zq1, zq2, zq3, zq4, zq5, zq6, zq8, zq9, zq10, zq20, zq7, zq12, zq24, zq40, zq41, zq48, zq100, zq120, zq123, zq480, zq492, zq700, zq729, zq2187, zq2916, zq8748, ne_eq, Int.reduceEq, Int.reduceLT, Int.reduceLE, Int.reduceToNat, Int.reduceMul, Int.reduceAdd, Int.reduceNeg]
        rw [e132_2]
        simp only [e132_3, zs0, zsI, zsL, zsR, ztl1, ztl0, zc0, zcI, zcL, zcR, true_and, and_true, true_implies, false_implies, implies_true, not_true_eq_false, not_false_eq_true, and_self, Int.toNat_natCast, Nat.reduceAdd, Nat.reduceLeDiff, Nat.reduceLT, forall_eq', Option.some.injEq, zarR, zarI, zarL, zle, zq0, zq1, zq2, zq3, zq4, zq5, zq6, zq8, zq9, zq10, zq20, zq7, zq12, zq24, zq40, zq41, zq48, zq100, zq120, zq123, zq480, zq492, zq700, zq729, zq2187, zq2916, zq8748, ne_eq, Int.reduceEq, Int.reduceLT, Int.reduceLE, Int.reduceToNat, Int.reduceMul, Int.reduceAdd, Int.reduceNeg]
        apply m_townEnd (s := .inr p) hg hv ⟨s1, D1⟩ (fun p' z => by cases z; exact ⟨ok.2.1, ok.2.2.1, ok.2.2.2⟩)
        intro h3 f3 r3
        apply K h3 (f1.tr f3)
        dsimp only at r3
        by_cases k0 : kd tp n p.1 = 0
        · rw [if_pos k0] at r3 ⊢
          exact r3
        · rw [if_neg k0] at r3 ⊢
          rw [if_neg k3]
          exact r3
end MTw
