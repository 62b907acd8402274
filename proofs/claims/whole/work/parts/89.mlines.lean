def LM (tp : Nat → Int) (n u : Nat) (r : pE ⊕ (Nat × pD)) (h : zM) : Prop := match r with
  | .inl e => MS tp n (.inl e) h
  | .inr p => MS tp n (.inr p.1) h ∧ DM tp u h p.2
theorem MV_s {tp : Nat → Int} {n : Nat} {r : pE ⊕ (Nat × Int)} {h : zM} {v : Int} (m : MV tp n r h v) : MS tp n (sF r) h := by
  rcases r with e | p
  · exact m
  · exact m.1
section MB
variable {d : Nat} {Q : zQ} {G : zG} {h : zM} {n q u : Nat} {tp : Nat → Int} {D : pD}
theorem m_readBaker (hg : gS G) (hv : gV G u) (c : MS tp n (.inr q) h) (hk : kd tp n q = 1) (k : DM tp u h D) (hB : DB tp n D) (K : ∀ h' : zM, fm u h h' → LM tp n u (pBk tp n D q) h' → Q none G h') : zRunD ztb zmt' (d + 5) 135 [zR (some 91)] G h Q := by
  rw [r135]
  have u121 : 121 ≤ u := hv.1
  obtain ⟨b1, b2, b3, b4, b5, b6⟩ := hB
  obtain ⟨⟨r1, r2, r3, r4, r5, r6, r7, r8, r9, r10, r11, r12⟩, rtw, rkp, rL, rN⟩ := id k
  have rest : ∀ h2 : zM, (∀ c i, ¬ (c = 91 ∧ 8 ≤ i ∧ i ≤ 15) → ¬ (c = u ∧ i = 4) → ¬ c = u + 10 → h2 c i = h c i) → MS tp n (pNd tp n (if nB D.1 = 3 then 1 else 0) D.2.1 q) h2 → (∀ q', pNd tp n (if nB D.1 = 3 then 1 else 0) D.2.1 q = .inr q' → h2 u 4 = ((D.2.1.length + 1 : Nat) : Int) ∧ (∀ (i : Nat) (p : Nat × Nat), (D.2.1 ++ [(st tp n (nxt tp n q), rn tp n (nxt tp n q) - st tp n (nxt tp n q))])[i]? = some p → h2 (u + 10) i = wcd tp p.1 p.2)) → zE 135 (d + 4) Q 20 [some (zR (some 91)), none, none, none] [] G h2 (0, 0) := by
    intro h2 f2 s2 m2
    simp only [e135_20, e135_21, e135_23, e135_25, zs0, zsI, zsL, zsR, ztl1, ztl0, zc0, zcI, zcL, zcR, true_and, and_true, true_implies, false_implies, implies_true, not_true_eq_false, not_false_eq_true, and_self, Int.toNat_natCast, Nat.reduceAdd, Nat.reduceLeDiff, Nat.reduceLT, forall_eq', Option.some.injEq, zarR, zarI, zarL, zle, zq0, zq1, zq2, zq3, zq4, zq5, zq6, zq8, zq9, zq10, zq20, zq7, zq12, zq24, zq40, zq41, zq48, zq100, zq120, zq123, zq480, zq492, zq700, zq729, zq2187, zq2916, zq8748, ne_eq, Int.reduceEq, Int.reduceLT, Int.reduceLE, Int.reduceToNat, Int.reduceMul, Int.reduceAdd, Int.reduceNeg, gk91 hg, gr91_5 hg, gr91_22 hg, gr91_23 hg, gr91_24 hg, gr91_25 hg, gr91_26 hg, gr91_27 hg, gr91_28 hg, gr91_29 hg, gr91_32 hg, gr91_33 hg, gr91_34 hg, gr91_35 hg, gr91_36 hg, gr91_37 hg, gr91_38 hg, gr91_39 hg, gr91_40 hg, gr91_41 hg, gr91_42 hg, gr91_44 hg, gr91_45 hg, gr91_46 hg, gr91_48 hg, gr91_49 hg, gr91_50 hg, gr91_51 hg, gr91_52 hg]
    apply m_readPart (d := d) (id := 4) (most := 99) hg (by decide) s2
    intro v3 h3 f3 w3
    have s3 := MV_s w3
    simp only [e135_28, e135_29, e135_30, e135_32, e135_34, zs0, zsI, zsL, zsR, ztl1, ztl0, zc0, zcI, zcL, zcR, true_and, and_true, true_implies, false_implies, implies_true, not_true_eq_false, not_false_eq_true, and_self, Int.toNat_natCast, Nat.reduceAdd, Nat.reduceLeDiff, Nat.reduceLT, forall_eq', Option.some.injEq, zarR, zarI, zarL, zle, zq0, zq1, zq2, zq3, zq4, zq5, zq6, zq8, zq9, zq10, zq20, zq7, zq12, zq24, zq40, zq41, zq48, zq100, zq120, zq123, zq480, zq492, zq700, zq729, zq2187, zq2916, zq8748, ne_eq, Int.reduceEq, Int.reduceLT, Int.reduceLE, Int.reduceToNat, Int.reduceMul, Int.reduceAdd, Int.reduceNeg, gk91 hg, gr91_5 hg, gr91_22 hg, gr91_23 hg, gr91_24 hg, gr91_25 hg, gr91_26 hg, gr91_27 hg, gr91_28 hg, gr91_29 hg, gr91_32 hg, gr91_33 hg, gr91_34 hg, gr91_35 hg, gr91_36 hg, gr91_37 hg, gr91_38 hg, gr91_39 hg, gr91_40 hg, gr91_41 hg, gr91_42 hg, gr91_44 hg, gr91_45 hg, gr91_46 hg, gr91_48 hg, gr91_49 hg, gr91_50 hg, gr91_51 hg, gr91_52 hg]
    apply m_readPart (d := d) (id := 5) (most := 9) hg (by decide) s3
    intro v4 h4 f4 w4
    have s4 := MV_s w4
    simp only [e135_37, e135_38, e135_39, e135_41, e135_44, zs0, zsI, zsL, zsR, ztl1, ztl0, zc0, zcI, zcL, zcR, true_and, and_true, true_implies, false_implies, implies_true, not_true_eq_false, not_false_eq_true, and_self, Int.toNat_natCast, Nat.reduceAdd, Nat.reduceLeDiff, Nat.reduceLT, forall_eq', Option.some.injEq, zarR, zarI, zarL, zle, zq0, zq1, zq2, zq3, zq4, zq5, zq6, zq8, zq9, zq10, zq20, zq7, zq12, zq24, zq40, zq41, zq48, zq100, zq120, zq123, zq480, zq492, zq700, zq729, zq2187, zq2916, zq8748, ne_eq, Int.reduceEq, Int.reduceLT, Int.reduceLE, Int.reduceToNat, Int.reduceMul, Int.reduceAdd, Int.reduceNeg, gk91 hg, gr91_5 hg, gr91_22 hg, gr91_23 hg, gr91_24 hg, gr91_25 hg, gr91_26 hg, gr91_27 hg, gr91_28 hg, gr91_29 hg, gr91_32 hg, gr91_33 hg, gr91_34 hg, gr91_35 hg, gr91_36 hg, gr91_37 hg, gr91_38 hg, gr91_39 hg, gr91_40 hg, gr91_41 hg, gr91_42 hg, gr91_44 hg, gr91_45 hg, gr91_46 hg, gr91_48 hg, gr91_49 hg, gr91_50 hg, gr91_51 hg, gr91_52 hg]
    apply m_readPart (d := d) (id := 6) (most := 999) hg (by decide) s4
    intro v5 h5 f5 w5
    have s5 := MV_s w5
    have F : mfm h2 h5 := ((f3).tr f4).tr f5
    have FF : ∀ c i, ¬ (c = 91 ∧ 8 ≤ i ∧ i ≤ 15) → ¬ (c = u ∧ i = 4) → ¬ c = u + 10 → h5 c i = h c i := fun c i z1 z2 z3 => by rw [F c i z1, f2 c i z1 z2 z3]
    cases hl : (sV (sF (sV (sF (sV (pNd tp n (if nB D.1 = 3 then 1 else 0) D.2.1 q) (pWh tp n 4 99))) (pWh tp n 5 9))) (pWh tp n 6 999)) with
    | inl e =>
      rw [hl] at w5
      have h9 : h5 91 9 = 5 := w5.2.1
      have kk := K h5 (fun c i z1 z2 => FF c i z1 (by omega) (by omega)) (by rw [pBk_d hl]; exact w5)
      simp only [e135_47, e135_48, e135_49, e135_52, e135_53, e135_56, zs0, zsI, zsL, zsR, ztl1, ztl0, zc0, zcI, zcL, zcR, true_and, and_true, true_implies, false_implies, implies_true, not_true_eq_false, not_false_eq_true, and_self, Int.toNat_natCast, Nat.reduceAdd, Nat.reduceLeDiff, Nat.reduceLT, forall_eq', Option.some.injEq, zarR, zarI, zarL, zle, zq0, zq1, zq2, zq3, zq4, zq5, zq6, zq8, zq9, zq10, zq20, zq7, zq12, zq24, zq40, zq41, zq48, zq100, zq120, zq123, zq480, zq492, zq700, zq729, zq2187, zq2916, zq8748, ne_eq, Int.reduceEq, Int.reduceLT, Int.reduceLE, Int.reduceToNat, Int.reduceMul, Int.reduceAdd, Int.reduceNeg, gk91 hg, gr91_5 hg, gr91_22 hg, gr91_23 hg, gr91_24 hg, gr91_25 hg, gr91_26 hg, gr91_27 hg, gr91_28 hg, gr91_29 hg, gr91_32 hg, gr91_33 hg, gr91_34 hg, gr91_35 hg, gr91_36 hg, gr91_37 hg, gr91_38 hg, gr91_39 hg, gr91_40 hg, gr91_41 hg, gr91_42 hg, gr91_44 hg, gr91_45 hg, gr91_46 hg, gr91_48 hg, gr91_49 hg, gr91_50 hg, gr91_51 hg, gr91_52 hg, h9]
      exact kk
    | inr pL =>
      obtain ⟨nf, qA, p3, p4, eA, e3, e4, eL⟩ := pBk_l hl
      obtain ⟨mL, mN⟩ := m2 qA eA
      rw [eL] at K
      rw [e3] at w3
      have x3 : v3 = p3.2 := w3.2
      rw [e4] at w4
      have x4 : v4 = p4.2 := w4.2
      rw [hl] at w5
      have x5 : v5 = pL.2 := w5.2
      have sL : MS tp n (.inr pL.1) h5 := w5.1
      have n9 := MS_9 sL
      obtain ⟨B, hBn⟩ : ∃ B, B = nB D.1 := ⟨_, rfl⟩
      have i3 : (B : Int) < 3 := by omega
      have g0 : h5 u 0 = (B : Int) := by rw [FF _ _ (by omega) (by omega) (by omega), hBn]; exact r1
      have g1 : (zu h5 (u + 1) B v3) u 0 = (B : Int) := by rw [zu_c (by omega)]; exact g0
      have g2 : (zu (zu h5 (u + 1) B v3) (u + 2) B v4) u 0 = (B : Int) := by rw [zu_c (by omega)]; exact g1
      have g3 : (zu (zu (zu h5 (u + 1) B v3) (u + 2) B v4) (u + 3) B v5) u 0 = (B : Int) := by rw [zu_c (by omega)]; exact g2
      simp only [e135_47, e135_48, e135_49, e135_52, e135_53, e135_56, e135_57, e135_58, e135_61, e135_64, e135_65, e135_68, e135_71, e135_72, e135_73, e135_74, e135_77, e135_80, e135_81, e135_84, e135_87, e135_88, e135_89, e135_90, e135_93, e135_96, e135_97, e135_100, e135_103, e135_104, e135_105, e135_106, e135_109, e135_110, e135_113, e135_114, e135_115, e135_118, zs0, zsI, zsL, zsR, ztl1, ztl0, zc0, zcI, zcL, zcR, true_and, and_true, true_implies, false_implies, implies_true, not_true_eq_false, not_false_eq_true, and_self, Int.toNat_natCast, Nat.reduceAdd, Nat.reduceLeDiff, Nat.reduceLT, forall_eq', Option.some.injEq, zarR, zarI, zarL, zle, zq0, zq1, zq2, zq3, zq4, zq5, zq6, zq8, zq9, zq10, zq20, zq7, zq12, zq24, zq40, zq41, zq48, zq100, zq120, zq123, zq480, zq492, zq700, zq729, zq2187, zq2916, zq8748, ne_eq, Int.reduceEq, Int.reduceLT, Int.reduceLE, Int.reduceToNat, Int.reduceMul, Int.reduceAdd, Int.reduceNeg, gk91 hg, gr91_5 hg, gr91_22 hg, gr91_23 hg, gr91_24 hg, gr91_25 hg, gr91_26 hg, gr91_27 hg, gr91_28 hg, gr91_29 hg, gr91_32 hg, gr91_33 hg, gr91_34 hg, gr91_35 hg, gr91_36 hg, gr91_37 hg, gr91_38 hg, gr91_39 hg, gr91_40 hg, gr91_41 hg, gr91_42 hg, gr91_44 hg, gr91_45 hg, gr91_46 hg, gr91_48 hg, gr91_49 hg, gr91_50 hg, gr91_51 hg, gr91_52 hg, hv, n9, g0, i3, g1, g2, g3, wr_s (show B < 2147483647 by omega)]
      obtain ⟨hf, ehf⟩ : ∃ z, z = zu (zu (zu (zu h5 (u + 1) B v3) (u + 2) B v4) (u + 3) B v5) u 0 ((B + 1 : Nat) : Int) := ⟨_, rfl⟩
      rw [← ehf]
      have fz : ∀ c i, ¬ (c = u ∧ i = 0) → ¬ (c = u + 1 ∧ i = B) → ¬ (c = u + 2 ∧ i = B) → ¬ (c = u + 3 ∧ i = B) → hf c i = h5 c i := fun c i z0 z1 z2 z3 => by rw [ehf, zu, if_neg z0, zu, if_neg z3, zu, if_neg z2, zu, if_neg z1]
      have bk : ∀ c i, ¬ (c = 91 ∧ 8 ≤ i ∧ i ≤ 15) → ¬ (c = u ∧ i = 4) → ¬ c = u + 10 → ¬ (c = u ∧ i = 0) → ¬ (c = u + 1 ∧ i = B) → ¬ (c = u + 2 ∧ i = B) → ¬ (c = u + 3 ∧ i = B) → hf c i = h c i := fun c i y1 y2 y3 z0 z1 z2 z3 => by rw [fz c i z0 z1 z2 z3, FF c i y1 y2 y3]
      apply K hf (fun c i z1 z2 => bk c i z1 (by omega) (by omega) (by omega) (by omega) (by omega) (by omega))
      refine ⟨MS_fr sL (fun i _ _ => fz _ _ (by omega) (by omega) (by omega) (by omega)) (fun i => fz _ _ (by omega) (by omega) (by omega) (by omega)), ⟨?_, ?_, ?_, ?_, ?_, ?_, ?_, ?_, ?_, ?_, ?_, ?_⟩, ?_, ?_, ?_, ?_⟩
      · rw [ehf, zu_at, hBn]; rfl
      · rw [bk _ _ (by omega) (by omega) (by omega) (by omega) (by omega) (by omega) (by omega)]; exact r2
      · rw [bk _ _ (by omega) (by omega) (by omega) (by omega) (by omega) (by omega) (by omega)]; exact r3
      · intro i hi
        have hi' : i < nB D.1 + 1 := hi
        have et : tr (bkT D.1 p3.2 p4.2 pL.2) 0 i = if i = nB D.1 then p3.2 else tr D.1 0 i := by
          unfold tr bkT
          dsimp only
          by_cases z : i = nB D.1
          · have z' : i = D.1.1 := z
            rw [if_pos z]
            simp only [z', true_and, if_true, Nat.reduceEqDiff, if_false]
          · have z' : ¬ i = D.1.1 := z
            rw [if_neg z]
            simp only [z', false_and, if_false]
        show hf (u + 1) i = tr (bkT D.1 p3.2 p4.2 pL.2) 0 i
        rw [et]
        by_cases z : i = nB D.1
        · rw [if_pos z, z, ← hBn, ehf, zu_c (by omega), zu_c (by omega), zu_c (by omega), zu_at, x3]
        · rw [if_neg z, bk _ _ (by omega) (by omega) (by omega) (by omega) (by omega) (by omega) (by omega)]; exact r4 i (by omega)
      · intro i hi
        have hi' : i < nB D.1 + 1 := hi
        have et : tr (bkT D.1 p3.2 p4.2 pL.2) 1 i = if i = nB D.1 then p4.2 else tr D.1 1 i := by
          unfold tr bkT
          dsimp only
          by_cases z : i = nB D.1
          · have z' : i = D.1.1 := z
            rw [if_pos z]
            simp only [z', true_and, if_true, Nat.reduceEqDiff, if_false]
          · have z' : ¬ i = D.1.1 := z
            rw [if_neg z]
            simp only [z', false_and, if_false]
        show hf (u + 2) i = tr (bkT D.1 p3.2 p4.2 pL.2) 1 i
        rw [et]
        by_cases z : i = nB D.1
        · rw [if_pos z, z, ← hBn, ehf, zu_c (by omega), zu_c (by omega), zu_at, x4]
        · rw [if_neg z, bk _ _ (by omega) (by omega) (by omega) (by omega) (by omega) (by omega) (by omega)]; exact r5 i (by omega)
      · intro i hi
        have hi' : i < nB D.1 + 1 := hi
        have et : tr (bkT D.1 p3.2 p4.2 pL.2) 2 i = if i = nB D.1 then pL.2 else tr D.1 2 i := by
          unfold tr bkT
          dsimp only
          by_cases z : i = nB D.1
          · have z' : i = D.1.1 := z
            rw [if_pos z]
            simp only [z', true_and, if_true, Nat.reduceEqDiff, if_false]
          · have z' : ¬ i = D.1.1 := z
            rw [if_neg z]
            simp only [z', false_and, if_false]
        show hf (u + 3) i = tr (bkT D.1 p3.2 p4.2 pL.2) 2 i
        rw [et]
        by_cases z : i = nB D.1
        · rw [if_pos z, z, ← hBn, ehf, zu_c (by omega), zu_at, x5]
        · rw [if_neg z, bk _ _ (by omega) (by omega) (by omega) (by omega) (by omega) (by omega) (by omega)]; exact r6 i (by omega)
      · intro i hi
        have et : tr (bkT D.1 p3.2 p4.2 pL.2) 8 i = tr D.1 8 i := by
          unfold tr bkT
          simp only [Nat.reduceEqDiff, and_false, if_false]
        show hf (u + 4) i = tr (bkT D.1 p3.2 p4.2 pL.2) 8 i
        rw [et, bk _ _ (by omega) (by omega) (by omega) (by omega) (by omega) (by omega) (by omega)]; exact r7 i hi
      · intro i hi
        have et : tr (bkT D.1 p3.2 p4.2 pL.2) 3 i = tr D.1 3 i := by
          unfold tr bkT
          simp only [Nat.reduceEqDiff, and_false, if_false]
        show hf (u + 5) i = tr (bkT D.1 p3.2 p4.2 pL.2) 3 i
        rw [et, bk _ _ (by omega) (by omega) (by omega) (by omega) (by omega) (by omega) (by omega)]; exact r8 i hi
      · intro i hi
        have et : tr (bkT D.1 p3.2 p4.2 pL.2) 4 i = tr D.1 4 i := by
          unfold tr bkT
          simp only [Nat.reduceEqDiff, and_false, if_false]
        show hf (u + 6) i = tr (bkT D.1 p3.2 p4.2 pL.2) 4 i
        rw [et, bk _ _ (by omega) (by omega) (by omega) (by omega) (by omega) (by omega) (by omega)]; exact r9 i hi
      · intro i hi
        have et : tr (bkT D.1 p3.2 p4.2 pL.2) 5 i = tr D.1 5 i := by
          unfold tr bkT
          simp only [Nat.reduceEqDiff, and_false, if_false]
        show hf (u + 7) i = tr (bkT D.1 p3.2 p4.2 pL.2) 5 i
        rw [et, bk _ _ (by omega) (by omega) (by omega) (by omega) (by omega) (by omega) (by omega)]; exact r10 i hi
      · intro i hi
        have et : tr (bkT D.1 p3.2 p4.2 pL.2) 6 i = tr D.1 6 i := by
          unfold tr bkT
          simp only [Nat.reduceEqDiff, and_false, if_false]
        show hf (u + 8) i = tr (bkT D.1 p3.2 p4.2 pL.2) 6 i
        rw [et, bk _ _ (by omega) (by omega) (by omega) (by omega) (by omega) (by omega) (by omega)]; exact r11 i hi
      · intro i hi
        have et : tr (bkT D.1 p3.2 p4.2 pL.2) 7 i = tr D.1 7 i := by
          unfold tr bkT
          simp only [Nat.reduceEqDiff, and_false, if_false]
        show hf (u + 9) i = tr (bkT D.1 p3.2 p4.2 pL.2) 7 i
        rw [et, bk _ _ (by omega) (by omega) (by omega) (by omega) (by omega) (by omega) (by omega)]; exact r12 i hi
      · intro z; rw [bk _ _ (by omega) (by omega) (by omega) (by omega) (by omega) (by omega) (by omega)]; exact rtw z
      · rw [bk _ _ (by omega) (by omega) (by omega) (by omega) (by omega) (by omega) (by omega)]; exact rkp
      · show hf u 4 = ((D.2.1 ++ _).length : Int)
        rw [List.length_append, fz _ _ (by omega) (by omega) (by omega) (by omega), F _ _ (by omega), mL]; rfl
      · intro i p hp; rw [fz _ _ (by omega) (by omega) (by omega) (by omega), F _ _ (by omega)]; exact mN i p hp
  by_cases f : nB D.1 = 3
  · have f' : ((nB D.1 : Nat) : Int) = 3 := by omega
    rw [if_pos f] at rest
    simp only [e135_0, e135_1, e135_2, e135_5, e135_8, e135_9, e135_12, e135_13, e135_16, e135_17, zs0, zsI, zsL, zsR, ztl1, ztl0, zc0, zcI, zcL, zcR, true_and, and_true, true_implies, false_implies, implies_true, not_true_eq_false, not_false_eq_true, and_self, Int.toNat_natCast, Nat.reduceAdd, Nat.reduceLeDiff, Nat.reduceLT, forall_eq', Option.some.injEq, zarR, zarI, zarL, zle, zq0, zq1, zq2, zq3, zq4, zq5, zq6, zq8, zq9, zq10, zq20, zq7, zq12, zq24, zq40, zq41, zq48, zq100, zq120, zq123, zq480, zq492, zq700, zq729, zq2187, zq2916, zq8748, ne_eq, Int.reduceEq, Int.reduceLT, Int.reduceLE, Int.reduceToNat, Int.reduceMul, Int.reduceAdd, Int.reduceNeg, gk91 hg, gr91_5 hg, gr91_22 hg, gr91_23 hg, gr91_24 hg, gr91_25 hg, gr91_26 hg, gr91_27 hg, gr91_28 hg, gr91_29 hg, gr91_32 hg, gr91_33 hg, gr91_34 hg, gr91_35 hg, gr91_36 hg, gr91_37 hg, gr91_38 hg, gr91_39 hg, gr91_40 hg, gr91_41 hg, gr91_42 hg, gr91_44 hg, gr91_45 hg, gr91_46 hg, gr91_48 hg, gr91_49 hg, gr91_50 hg, gr91_51 hg, gr91_52 hg, hv, r1, f']
    show zRunD ztb zmt' (d + 4) 134 [zR (some 91), zI ((1 : Nat) : Int)] G h _
    exact m_readNamed (d := d + 1) hg hv c (by omega) k (Or.inr ⟨rfl, by omega⟩) (fun h2 f2 s2 m2 => rest h2 f2 s2 m2)
  · have f' : ¬ ((nB D.1 : Nat) : Int) = 3 := by omega
    rw [if_neg f] at rest
    simp only [e135_0, e135_1, e135_2, e135_5, e135_8, e135_9, e135_12, e135_13, e135_16, e135_17, zs0, zsI, zsL, zsR, ztl1, ztl0, zc0, zcI, zcL, zcR, true_and, and_true, true_implies, false_implies, implies_true, not_true_eq_false, not_false_eq_true, and_self, Int.toNat_natCast, Nat.reduceAdd, Nat.reduceLeDiff, Nat.reduceLT, forall_eq', Option.some.injEq, zarR, zarI, zarL, zle, zq0, zq1, zq2, zq3, zq4, zq5, zq6, zq8, zq9, zq10, zq20, zq7, zq12, zq24, zq40, zq41, zq48, zq100, zq120, zq123, zq480, zq492, zq700, zq729, zq2187, zq2916, zq8748, ne_eq, Int.reduceEq, Int.reduceLT, Int.reduceLE, Int.reduceToNat, Int.reduceMul, Int.reduceAdd, Int.reduceNeg, gk91 hg, gr91_5 hg, gr91_22 hg, gr91_23 hg, gr91_24 hg, gr91_25 hg, gr91_26 hg, gr91_27 hg, gr91_28 hg, gr91_29 hg, gr91_32 hg, gr91_33 hg, gr91_34 hg, gr91_35 hg, gr91_36 hg, gr91_37 hg, gr91_38 hg, gr91_39 hg, gr91_40 hg, gr91_41 hg, gr91_42 hg, gr91_44 hg, gr91_45 hg, gr91_46 hg, gr91_48 hg, gr91_49 hg, gr91_50 hg, gr91_51 hg, gr91_52 hg, hv, r1, f']
    show zRunD ztb zmt' (d + 4) 134 [zR (some 91), zI ((0 : Nat) : Int)] G h _
    exact m_readNamed (d := d + 1) hg hv c (by omega) k (Or.inl ⟨rfl, by omega⟩) (fun h2 f2 s2 m2 => rest h2 f2 s2 m2)
theorem m_readSort (hg : gS G) (hv : gV G u) (c : MS tp n (.inr q) h) (hk : kd tp n q = 1) (k : DM tp u h D) (hB : DB tp n D) (K : ∀ h' : zM, fm u h h' → LM tp n u (pSr tp n D q) h' → Q none G h') : zRunD ztb zmt' (d + 5) 136 [zR (some 91)] G h Q := by
  rw [r136]
  have u121 : 121 ≤ u := hv.1
  obtain ⟨b1, b2, b3, b4, b5, b6⟩ := hB
  obtain ⟨⟨r1, r2, r3, r4, r5, r6, r7, r8, r9, r10, r11, r12⟩, rtw, rkp, rL, rN⟩ := id k
  have rest : ∀ h2 : zM, (∀ c i, ¬ (c = 91 ∧ 8 ≤ i ∧ i ≤ 15) → ¬ (c = u ∧ i = 4) → ¬ c = u + 10 → h2 c i = h c i) → MS tp n (pNd tp n (if nS D.1 = 4 then 1 else 0) D.2.1 q) h2 → (∀ q', pNd tp n (if nS D.1 = 4 then 1 else 0) D.2.1 q = .inr q' → h2 u 4 = ((D.2.1.length + 1 : Nat) : Int) ∧ (∀ (i : Nat) (p : Nat × Nat), (D.2.1 ++ [(st tp n (nxt tp n q), rn tp n (nxt tp n q) - st tp n (nxt tp n q))])[i]? = some p → h2 (u + 10) i = wcd tp p.1 p.2)) → zE 136 (d + 4) Q 20 [some (zR (some 91)), none, none, none, none, none] [] G h2 (0, 0) := by
    intro h2 f2 s2 m2
    simp only [e136_20, e136_21, e136_24, e136_26, zs0, zsI, zsL, zsR, ztl1, ztl0, zc0, zcI, zcL, zcR, true_and, and_true, true_implies, false_implies, implies_true, not_true_eq_false, not_false_eq_true, and_self, Int.toNat_natCast, Nat.reduceAdd, Nat.reduceLeDiff, Nat.reduceLT, forall_eq', Option.some.injEq, zarR, zarI, zarL, zle, zq0, zq1, zq2, zq3, zq4, zq5, zq6, zq8, zq9, zq10, zq20, zq7, zq12, zq24, zq40, zq41, zq48, zq100, zq120, zq123, zq480, zq492, zq700, zq729, zq2187, zq2916, zq8748, ne_eq, Int.reduceEq, Int.reduceLT, Int.reduceLE, Int.reduceToNat, Int.reduceMul, Int.reduceAdd, Int.reduceNeg, gk91 hg, gr91_5 hg, gr91_22 hg, gr91_23 hg, gr91_24 hg, gr91_25 hg, gr91_26 hg, gr91_27 hg, gr91_28 hg, gr91_29 hg, gr91_32 hg, gr91_33 hg, gr91_34 hg, gr91_35 hg, gr91_36 hg, gr91_37 hg, gr91_38 hg, gr91_39 hg, gr91_40 hg, gr91_41 hg, gr91_42 hg, gr91_44 hg, gr91_45 hg, gr91_46 hg, gr91_48 hg, gr91_49 hg, gr91_50 hg, gr91_51 hg, gr91_52 hg]
    apply m_readPart (d := d) (id := 7) (most := 99) hg (by decide) s2
    intro v3 h3 f3 w3
    have s3 := MV_s w3
    simp only [e136_29, e136_30, e136_31, e136_34, e136_37, zs0, zsI, zsL, zsR, ztl1, ztl0, zc0, zcI, zcL, zcR, true_and, and_true, true_implies, false_implies, implies_true, not_true_eq_false, not_false_eq_true, and_self, Int.toNat_natCast, Nat.reduceAdd, Nat.reduceLeDiff, Nat.reduceLT, forall_eq', Option.some.injEq, zarR, zarI, zarL, zle, zq0, zq1, zq2, zq3, zq4, zq5, zq6, zq8, zq9, zq10, zq20, zq7, zq12, zq24, zq40, zq41, zq48, zq100, zq120, zq123, zq480, zq492, zq700, zq729, zq2187, zq2916, zq8748, ne_eq, Int.reduceEq, Int.reduceLT, Int.reduceLE, Int.reduceToNat, Int.reduceMul, Int.reduceAdd, Int.reduceNeg, gk91 hg, gr91_5 hg, gr91_22 hg, gr91_23 hg, gr91_24 hg, gr91_25 hg, gr91_26 hg, gr91_27 hg, gr91_28 hg, gr91_29 hg, gr91_32 hg, gr91_33 hg, gr91_34 hg, gr91_35 hg, gr91_36 hg, gr91_37 hg, gr91_38 hg, gr91_39 hg, gr91_40 hg, gr91_41 hg, gr91_42 hg, gr91_44 hg, gr91_45 hg, gr91_46 hg, gr91_48 hg, gr91_49 hg, gr91_50 hg, gr91_51 hg, gr91_52 hg]
    apply m_readPart (d := d) (id := 8) (most := 199) hg (by decide) s3
    intro v4 h4 f4 w4
    have s4 := MV_s w4
    simp only [e136_40, e136_41, e136_42, e136_45, e136_47, zs0, zsI, zsL, zsR, ztl1, ztl0, zc0, zcI, zcL, zcR, true_and, and_true, true_implies, false_implies, implies_true, not_true_eq_false, not_false_eq_true, and_self, Int.toNat_natCast, Nat.reduceAdd, Nat.reduceLeDiff, Nat.reduceLT, forall_eq', Option.some.injEq, zarR, zarI, zarL, zle, zq0, zq1, zq2, zq3, zq4, zq5, zq6, zq8, zq9, zq10, zq20, zq7, zq12, zq24, zq40, zq41, zq48, zq100, zq120, zq123, zq480, zq492, zq700, zq729, zq2187, zq2916, zq8748, ne_eq, Int.reduceEq, Int.reduceLT, Int.reduceLE, Int.reduceToNat, Int.reduceMul, Int.reduceAdd, Int.reduceNeg, gk91 hg, gr91_5 hg, gr91_22 hg, gr91_23 hg, gr91_24 hg, gr91_25 hg, gr91_26 hg, gr91_27 hg, gr91_28 hg, gr91_29 hg, gr91_32 hg, gr91_33 hg, gr91_34 hg, gr91_35 hg, gr91_36 hg, gr91_37 hg, gr91_38 hg, gr91_39 hg, gr91_40 hg, gr91_41 hg, gr91_42 hg, gr91_44 hg, gr91_45 hg, gr91_46 hg, gr91_48 hg, gr91_49 hg, gr91_50 hg, gr91_51 hg, gr91_52 hg]
    apply m_readPart (d := d) (id := 9) (most := 99) hg (by decide) s4
    intro v5 h5 f5 w5
    have s5 := MV_s w5
    simp only [e136_50, e136_51, e136_52, e136_55, e136_57, zs0, zsI, zsL, zsR, ztl1, ztl0, zc0, zcI, zcL, zcR, true_and, and_true, true_implies, false_implies, implies_true, not_true_eq_false, not_false_eq_true, and_self, Int.toNat_natCast, Nat.reduceAdd, Nat.reduceLeDiff, Nat.reduceLT, forall_eq', Option.some.injEq, zarR, zarI, zarL, zle, zq0, zq1, zq2, zq3, zq4, zq5, zq6, zq8, zq9, zq10, zq20, zq7, zq12, zq24, zq40, zq41, zq48, zq100, zq120, zq123, zq480, zq492, zq700, zq729, zq2187, zq2916, zq8748, ne_eq, Int.reduceEq, Int.reduceLT, Int.reduceLE, Int.reduceToNat, Int.reduceMul, Int.reduceAdd, Int.reduceNeg, gk91 hg, gr91_5 hg, gr91_22 hg, gr91_23 hg, gr91_24 hg, gr91_25 hg, gr91_26 hg, gr91_27 hg, gr91_28 hg, gr91_29 hg, gr91_32 hg, gr91_33 hg, gr91_34 hg, gr91_35 hg, gr91_36 hg, gr91_37 hg, gr91_38 hg, gr91_39 hg, gr91_40 hg, gr91_41 hg, gr91_42 hg, gr91_44 hg, gr91_45 hg, gr91_46 hg, gr91_48 hg, gr91_49 hg, gr91_50 hg, gr91_51 hg, gr91_52 hg]
    apply m_readPart (d := d) (id := 10) (most := 100) hg (by decide) s5
    intro v6 h6 f6 w6
    have s6 := MV_s w6
    have ei : (∀ (v : Int) (h' : zM), (v = 0 ∨ v = 1) → mfm h6 h' → MV tp n (sV (sF (sV (sF (sV (sF (sV (sF (sV (pNd tp n (if nS D.1 = 4 then 1 else 0) D.2.1 q) (pWh tp n 7 99))) (pWh tp n 8 199))) (pWh tp n 9 99))) (pWh tp n 10 100))) (pEi tp n 11 12)) h' v → zE 136 (d + 4) Q 95 [some (zR (some 91)), some (zI v3), some (zI v4), some (zI v5), some (zI v6), some (zI v)] [] G h' (0, 0)) → zE 136 (d + 4) Q 62 [some (zR (some 91)), some (zI v3), some (zI v4), some (zI v5), some (zI v6), none] [] G h6 (0, 0) := by
      intro KK
      generalize sF (sV (sF (sV (sF (sV (sF (sV (pNd tp n (if nS D.1 = 4 then 1 else 0) D.2.1 q) (pWh tp n 7 99))) (pWh tp n 8 199))) (pWh tp n 9 99))) (pWh tp n 10 100)) = s at s6 KK
      simp only [e136_62, e136_63, e136_66, zs0, zsI, zsL, zsR, ztl1, ztl0, zc0, zcI, zcL, zcR, true_and, and_true, true_implies, false_implies, implies_true, not_true_eq_false, not_false_eq_true, and_self, Int.toNat_natCast, Nat.reduceAdd, Nat.reduceLeDiff, Nat.reduceLT, forall_eq', Option.some.injEq, zarR, zarI, zarL, zle, zq0, zq1, zq2, zq3, zq4, zq5, zq6, zq8, zq9, zq10, zq20, zq7, zq12, zq24, zq40, zq41, zq48, zq100, zq120, zq123, zq480, zq492, zq700, zq729, zq2187, zq2916, zq8748, ne_eq, Int.reduceEq, Int.reduceLT, Int.reduceLE, Int.reduceToNat, Int.reduceMul, Int.reduceAdd, Int.reduceNeg, gk91 hg, gr91_5 hg, gr91_22 hg, gr91_23 hg, gr91_24 hg, gr91_25 hg, gr91_26 hg, gr91_27 hg, gr91_28 hg, gr91_29 hg, gr91_32 hg, gr91_33 hg, gr91_34 hg, gr91_35 hg, gr91_36 hg, gr91_37 hg, gr91_38 hg, gr91_39 hg, gr91_40 hg, gr91_41 hg, gr91_42 hg, gr91_44 hg, gr91_45 hg, gr91_46 hg, gr91_48 hg, gr91_49 hg, gr91_50 hg, gr91_51 hg, gr91_52 hg]
      apply m_isWord (d := d + 2) (id := 12) hg (by decide) s6
      intro v vl vd
      have tail : ∀ (s' : pE ⊕ Nat) (g : zM) (v : Int), mfm h6 g → MS tp n s' g → (∀ q, s' = .inr q → ¬ kd tp n q = 5) → (∀ h' : zM, mfm h6 h' → MS tp n (sP s' (fun q => .inr (nxt tp n q))) h' → zE 136 (d + 4) Q 95 [some (zR (some 91)), some (zI v3), some (zI v4), some (zI v5), some (zI v6), some (zI v)] [] G h' (0, 0)) → zE 136 (d + 4) Q 91 [some (zR (some 91)), some (zI v3), some (zI v4), some (zI v5), some (zI v6), some (zI v)] [] G g (0, 0) := by
        intro s' g v f1 c1 hk KK
        simp only [e136_91, e136_92, zs0, zsI, zsL, zsR, ztl1, ztl0, zc0, zcI, zcL, zcR, true_and, and_true, true_implies, false_implies, implies_true, not_true_eq_false, not_false_eq_true, and_self, Int.toNat_natCast, Nat.reduceAdd, Nat.reduceLeDiff, Nat.reduceLT, forall_eq', Option.some.injEq, zarR, zarI, zarL, zle, zq0, zq1, zq2, zq3, zq4, zq5, zq6, zq8, zq9, zq10, zq20, zq7, zq12, zq24, zq40, zq41, zq48, zq100, zq120, zq123, zq480, zq492, zq700, zq729, zq2187, zq2916, zq8748, ne_eq, Int.reduceEq, Int.reduceLT, Int.reduceLE, Int.reduceToNat, Int.reduceMul, Int.reduceAdd, Int.reduceNeg, gk91 hg, gr91_5 hg, gr91_22 hg, gr91_23 hg, gr91_24 hg, gr91_25 hg, gr91_26 hg, gr91_27 hg, gr91_28 hg, gr91_29 hg, gr91_32 hg, gr91_33 hg, gr91_34 hg, gr91_35 hg, gr91_36 hg, gr91_37 hg, gr91_38 hg, gr91_39 hg, gr91_40 hg, gr91_41 hg, gr91_42 hg, gr91_44 hg, gr91_45 hg, gr91_46 hg, gr91_48 hg, gr91_49 hg, gr91_50 hg, gr91_51 hg, gr91_52 hg]
        apply m_go (d := d + 2) hg c1 hk
        intro h' f' _ c'
        exact KK h' (f1.tr f') c'
      rcases s with e | q'
      · have v0 := vd e rfl
        subst v0
        simp only [e136_69, e136_71, e136_73, e136_76, e136_77, e136_80, zs0, zsI, zsL, zsR, ztl1, ztl0, zc0, zcI, zcL, zcR, true_and, and_true, true_implies, false_implies, implies_true, not_true_eq_false, not_false_eq_true, and_self, Int.toNat_natCast, Nat.reduceAdd, Nat.reduceLeDiff, Nat.reduceLT, forall_eq', Option.some.injEq, zarR, zarI, zarL, zle, zq0, zq1, zq2, zq3, zq4, zq5, zq6, zq8, zq9, zq10, zq20, zq7, zq12, zq24, zq40, zq41, zq48, zq100, zq120, zq123, zq480, zq492, zq700, zq729, zq2187, zq2916, zq8748, ne_eq, Int.reduceEq, Int.reduceLT, Int.reduceLE, Int.reduceToNat, Int.reduceMul, Int.reduceAdd, Int.reduceNeg, gk91 hg, gr91_5 hg, gr91_22 hg, gr91_23 hg, gr91_24 hg, gr91_25 hg, gr91_26 hg, gr91_27 hg, gr91_28 hg, gr91_29 hg, gr91_32 hg, gr91_33 hg, gr91_34 hg, gr91_35 hg, gr91_36 hg, gr91_37 hg, gr91_38 hg, gr91_39 hg, gr91_40 hg, gr91_41 hg, gr91_42 hg, gr91_44 hg, gr91_45 hg, gr91_46 hg, gr91_48 hg, gr91_49 hg, gr91_50 hg, gr91_51 hg, gr91_52 hg]
        apply m_isWord (d := d + 2) (id := 11) hg (by decide) s6
        intro v' vl' vd'
        have v0 := vd' e rfl
        subst v0
        have w := fun Q' => m_wrong' (d := d + 2) (Q := Q') (h := h6) (a := 1) hg s6.2.1
        simp only [e136_83, e136_86, e136_87, e136_88, zs0, zsI, zsL, zsR, ztl1, ztl0, zc0, zcI, zcL, zcR, true_and, and_true, true_implies, false_implies, implies_true, not_true_eq_false, not_false_eq_true, and_self, Int.toNat_natCast, Nat.reduceAdd, Nat.reduceLeDiff, Nat.reduceLT, forall_eq', Option.some.injEq, zarR, zarI, zarL, zle, zq0, zq1, zq2, zq3, zq4, zq5, zq6, zq8, zq9, zq10, zq20, zq7, zq12, zq24, zq40, zq41, zq48, zq100, zq120, zq123, zq480, zq492, zq700, zq729, zq2187, zq2916, zq8748, ne_eq, Int.reduceEq, Int.reduceLT, Int.reduceLE, Int.reduceToNat, Int.reduceMul, Int.reduceAdd, Int.reduceNeg, gk91 hg, gr91_5 hg, gr91_22 hg, gr91_23 hg, gr91_24 hg, gr91_25 hg, gr91_26 hg, gr91_27 hg, gr91_28 hg, gr91_29 hg, gr91_32 hg, gr91_33 hg, gr91_34 hg, gr91_35 hg, gr91_36 hg, gr91_37 hg, gr91_38 hg, gr91_39 hg, gr91_40 hg, gr91_41 hg, gr91_42 hg, gr91_44 hg, gr91_45 hg, gr91_46 hg, gr91_48 hg, gr91_49 hg, gr91_50 hg, gr91_51 hg, gr91_52 hg, w]
        exact tail (.inl e) _ 0 mfm.rf s6 (fun q z => by cases z) (fun h' f' c' => KK 0 h' (Or.inl rfl) f' c')
      · unfold sV pEi at KK
        dsimp only at KK
        rcases vl q' rfl with ⟨v1, y⟩ | ⟨v1, y⟩
        · subst v1
          unfold isW at y
          rw [if_pos y] at KK
          simp only [e136_69, e136_71, e136_73, e136_76, e136_77, e136_80, e136_83, e136_86, e136_87, e136_88, zs0, zsI, zsL, zsR, ztl1, ztl0, zc0, zcI, zcL, zcR, true_and, and_true, true_implies, false_implies, implies_true, not_true_eq_false, not_false_eq_true, and_self, Int.toNat_natCast, Nat.reduceAdd, Nat.reduceLeDiff, Nat.reduceLT, forall_eq', Option.some.injEq, zarR, zarI, zarL, zle, zq0, zq1, zq2, zq3, zq4, zq5, zq6, zq8, zq9, zq10, zq20, zq7, zq12, zq24, zq40, zq41, zq48, zq100, zq120, zq123, zq480, zq492, zq700, zq729, zq2187, zq2916, zq8748, ne_eq, Int.reduceEq, Int.reduceLT, Int.reduceLE, Int.reduceToNat, Int.reduceMul, Int.reduceAdd, Int.reduceNeg, gk91 hg, gr91_5 hg, gr91_22 hg, gr91_23 hg, gr91_24 hg, gr91_25 hg, gr91_26 hg, gr91_27 hg, gr91_28 hg, gr91_29 hg, gr91_32 hg, gr91_33 hg, gr91_34 hg, gr91_35 hg, gr91_36 hg, gr91_37 hg, gr91_38 hg, gr91_39 hg, gr91_40 hg, gr91_41 hg, gr91_42 hg, gr91_44 hg, gr91_45 hg, gr91_46 hg, gr91_48 hg, gr91_49 hg, gr91_50 hg, gr91_51 hg, gr91_52 hg]
          exact tail (.inr q') _ 1 mfm.rf s6 (fun q' z => by cases z; omega) (fun h' f' c' => KK 1 h' (Or.inr rfl) f' ⟨c', rfl⟩)
        · subst v1
          unfold isW at y
          rw [if_neg y] at KK
          simp only [e136_69, e136_71, e136_73, e136_76, e136_77, e136_80, zs0, zsI, zsL, zsR, ztl1, ztl0, zc0, zcI, zcL, zcR, true_and, and_true, true_implies, false_implies, implies_true, not_true_eq_false, not_false_eq_true, and_self, Int.toNat_natCast, Nat.reduceAdd, Nat.reduceLeDiff, Nat.reduceLT, forall_eq', Option.some.injEq, zarR, zarI, zarL, zle, zq0, zq1, zq2, zq3, zq4, zq5, zq6, zq8, zq9, zq10, zq20, zq7, zq12, zq24, zq40, zq41, zq48, zq100, zq120, zq123, zq480, zq492, zq700, zq729, zq2187, zq2916, zq8748, ne_eq, Int.reduceEq, Int.reduceLT, Int.reduceLE, Int.reduceToNat, Int.reduceMul, Int.reduceAdd, Int.reduceNeg, gk91 hg, gr91_5 hg, gr91_22 hg, gr91_23 hg, gr91_24 hg, gr91_25 hg, gr91_26 hg, gr91_27 hg, gr91_28 hg, gr91_29 hg, gr91_32 hg, gr91_33 hg, gr91_34 hg, gr91_35 hg, gr91_36 hg, gr91_37 hg, gr91_38 hg, gr91_39 hg, gr91_40 hg, gr91_41 hg, gr91_42 hg, gr91_44 hg, gr91_45 hg, gr91_46 hg, gr91_48 hg, gr91_49 hg, gr91_50 hg, gr91_51 hg, gr91_52 hg]
          apply m_isWord (d := d + 2) (id := 11) hg (by decide) s6
          intro v' vl' vd'
          rcases vl' q' rfl with ⟨v1, y'⟩ | ⟨v1, y'⟩
          · subst v1
            unfold isW at y'
            rw [if_pos y'] at KK
            simp only [e136_83, e136_86, e136_87, e136_88, zs0, zsI, zsL, zsR, ztl1, ztl0, zc0, zcI, zcL, zcR, true_and, and_true, true_implies, false_implies, implies_true, not_true_eq_false, not_false_eq_true, and_self, Int.toNat_natCast, Nat.reduceAdd, Nat.reduceLeDiff, Nat.reduceLT, forall_eq', Option.some.injEq, zarR, zarI, zarL, zle, zq0, zq1, zq2, zq3, zq4, zq5, zq6, zq8, zq9, zq10, zq20, zq7, zq12, zq24, zq40, zq41, zq48, zq100, zq120, zq123, zq480, zq492, zq700, zq729, zq2187, zq2916, zq8748, ne_eq, Int.reduceEq, Int.reduceLT, Int.reduceLE, Int.reduceToNat, Int.reduceMul, Int.reduceAdd, Int.reduceNeg, gk91 hg, gr91_5 hg, gr91_22 hg, gr91_23 hg, gr91_24 hg, gr91_25 hg, gr91_26 hg, gr91_27 hg, gr91_28 hg, gr91_29 hg, gr91_32 hg, gr91_33 hg, gr91_34 hg, gr91_35 hg, gr91_36 hg, gr91_37 hg, gr91_38 hg, gr91_39 hg, gr91_40 hg, gr91_41 hg, gr91_42 hg, gr91_44 hg, gr91_45 hg, gr91_46 hg, gr91_48 hg, gr91_49 hg, gr91_50 hg, gr91_51 hg, gr91_52 hg]
            exact tail (.inr q') _ 0 mfm.rf s6 (fun q' z => by cases z; omega) (fun h' f' c' => KK 0 h' (Or.inl rfl) f' ⟨c', rfl⟩)
          · subst v1
            unfold isW at y'
            rw [if_neg y'] at KK
            have w := fun Q' => m_wrong (d := d + 2) (Q := Q') (h := h6) (a := 1) hg (MS_9 s6)
            simp only [e136_83, e136_86, e136_87, e136_88, zs0, zsI, zsL, zsR, ztl1, ztl0, zc0, zcI, zcL, zcR, true_and, and_true, true_implies, false_implies, implies_true, not_true_eq_false, not_false_eq_true, and_self, Int.toNat_natCast, Nat.reduceAdd, Nat.reduceLeDiff, Nat.reduceLT, forall_eq', Option.some.injEq, zarR, zarI, zarL, zle, zq0, zq1, zq2, zq3, zq4, zq5, zq6, zq8, zq9, zq10, zq20, zq7, zq12, zq24, zq40, zq41, zq48, zq100, zq120, zq123, zq480, zq492, zq700, zq729, zq2187, zq2916, zq8748, ne_eq, Int.reduceEq, Int.reduceLT, Int.reduceLE, Int.reduceToNat, Int.reduceMul, Int.reduceAdd, Int.reduceNeg, gk91 hg, gr91_5 hg, gr91_22 hg, gr91_23 hg, gr91_24 hg, gr91_25 hg, gr91_26 hg, gr91_27 hg, gr91_28 hg, gr91_29 hg, gr91_32 hg, gr91_33 hg, gr91_34 hg, gr91_35 hg, gr91_36 hg, gr91_37 hg, gr91_38 hg, gr91_39 hg, gr91_40 hg, gr91_41 hg, gr91_42 hg, gr91_44 hg, gr91_45 hg, gr91_46 hg, gr91_48 hg, gr91_49 hg, gr91_50 hg, gr91_51 hg, gr91_52 hg, w]
            have c2 := MS_die s6 (a := 1) (b := h6 91 10) (by decide)
            rw [s6.2.2.2.2.1] at c2 ⊢
            exact tail _ _ 0 mfm_die c2 (fun q z => by cases z) (fun h' f' c' => KK 0 h' (Or.inl rfl) f' c')
    simp only [e136_60, zs0, zsI, zsL, zsR, ztl1, ztl0, zc0, zcI, zcL, zcR, true_and, and_true, true_implies, false_implies, implies_true, not_true_eq_false, not_false_eq_true, and_self, Int.toNat_natCast, Nat.reduceAdd, Nat.reduceLeDiff, Nat.reduceLT, forall_eq', Option.some.injEq, zarR, zarI, zarL, zle, zq0, zq1, zq2, zq3, zq4, zq5, zq6, zq8, zq9, zq10, zq20, zq7, zq12, zq24, zq40, zq41, zq48, zq100, zq120, zq123, zq480, zq492, zq700, zq729, zq2187, zq2916, zq8748, ne_eq, Int.reduceEq, Int.reduceLT, Int.reduceLE, Int.reduceToNat, Int.reduceMul, Int.reduceAdd, Int.reduceNeg]
    apply ei
    intro v7 h7 vb f7 w7
    have F : mfm h2 h7 := ((((f3).tr f4).tr f5).tr f6).tr f7
    have FF : ∀ c i, ¬ (c = 91 ∧ 8 ≤ i ∧ i ≤ 15) → ¬ (c = u ∧ i = 4) → ¬ c = u + 10 → h7 c i = h c i := fun c i z1 z2 z3 => by rw [F c i z1, f2 c i z1 z2 z3]
    cases hl : (sV (sF (sV (sF (sV (sF (sV (sF (sV (pNd tp n (if nS D.1 = 4 then 1 else 0) D.2.1 q) (pWh tp n 7 99))) (pWh tp n 8 199))) (pWh tp n 9 99))) (pWh tp n 10 100))) (pEi tp n 11 12)) with
    | inl e =>
      rw [hl] at w7
      have h9 : h7 91 9 = 5 := w7.2.1
      have kk := K h7 (fun c i z1 z2 => FF c i z1 (by omega) (by omega)) (by rw [pSr_d hl]; exact w7)
      simp only [e136_95, e136_96, e136_99, e136_100, e136_103, zs0, zsI, zsL, zsR, ztl1, ztl0, zc0, zcI, zcL, zcR, true_and, and_true, true_implies, false_implies, implies_true, not_true_eq_false, not_false_eq_true, and_self, Int.toNat_natCast, Nat.reduceAdd, Nat.reduceLeDiff, Nat.reduceLT, forall_eq', Option.some.injEq, zarR, zarI, zarL, zle, zq0, zq1, zq2, zq3, zq4, zq5, zq6, zq8, zq9, zq10, zq20, zq7, zq12, zq24, zq40, zq41, zq48, zq100, zq120, zq123, zq480, zq492, zq700, zq729, zq2187, zq2916, zq8748, ne_eq, Int.reduceEq, Int.reduceLT, Int.reduceLE, Int.reduceToNat, Int.reduceMul, Int.reduceAdd, Int.reduceNeg, gk91 hg, gr91_5 hg, gr91_22 hg, gr91_23 hg, gr91_24 hg, gr91_25 hg, gr91_26 hg, gr91_27 hg, gr91_28 hg, gr91_29 hg, gr91_32 hg, gr91_33 hg, gr91_34 hg, gr91_35 hg, gr91_36 hg, gr91_37 hg, gr91_38 hg, gr91_39 hg, gr91_40 hg, gr91_41 hg, gr91_42 hg, gr91_44 hg, gr91_45 hg, gr91_46 hg, gr91_48 hg, gr91_49 hg, gr91_50 hg, gr91_51 hg, gr91_52 hg, h9]
      exact kk
    | inr pL =>
      obtain ⟨nf, qA, p3, p4, p5, p6, eA, e3, e4, e5, e6, eL⟩ := pSr_l hl
      obtain ⟨mL, mN⟩ := m2 qA eA
      rw [eL] at K
      rw [e3] at w3
      have x3 : v3 = p3.2 := w3.2
      rw [e4] at w4
      have x4 : v4 = p4.2 := w4.2
      rw [e5] at w5
      have x5 : v5 = p5.2 := w5.2
      rw [e6] at w6
      have x6 : v6 = p6.2 := w6.2
      rw [hl] at w7
      have x7 : v7 = pL.2 := w7.2
      have sL : MS tp n (.inr pL.1) h7 := w7.1
      have n9 := MS_9 sL
      obtain ⟨B, hBn⟩ : ∃ B, B = nS D.1 := ⟨_, rfl⟩
      have i3 : (B : Int) < 4 := by omega
      have g0 : h7 u 1 = (B : Int) := by rw [FF _ _ (by omega) (by omega) (by omega), hBn]; exact r2
      have g1 : (zu h7 (u + 5) B v3) u 1 = (B : Int) := by rw [zu_c (by omega)]; exact g0
      have g2 : (zu (zu h7 (u + 5) B v3) (u + 6) B v4) u 1 = (B : Int) := by rw [zu_c (by omega)]; exact g1
      have g3 : (zu (zu (zu h7 (u + 5) B v3) (u + 6) B v4) (u + 7) B v5) u 1 = (B : Int) := by rw [zu_c (by omega)]; exact g2
      have g4 : (zu (zu (zu (zu h7 (u + 5) B v3) (u + 6) B v4) (u + 7) B v5) (u + 8) B v6) u 1 = (B : Int) := by rw [zu_c (by omega)]; exact g3
      have g5 : (zu (zu (zu (zu (zu h7 (u + 5) B v3) (u + 6) B v4) (u + 7) B v5) (u + 8) B v6) (u + 9) B v7) u 1 = (B : Int) := by rw [zu_c (by omega)]; exact g4
      have wbv : wb v7 = v7 := wb_id (by omega)
      simp only [e136_95, e136_96, e136_99, e136_100, e136_103, e136_104, e136_105, e136_108, e136_111, e136_112, e136_115, e136_118, e136_119, e136_120, e136_121, e136_124, e136_127, e136_128, e136_131, e136_134, e136_135, e136_136, e136_137, e136_140, e136_143, e136_144, e136_147, e136_150, e136_151, e136_152, e136_153, e136_156, e136_159, e136_160, e136_163, e136_166, e136_168, e136_169, e136_170, e136_173, e136_176, e136_177, e136_180, e136_183, e136_185, e136_186, e136_187, e136_190, e136_191, e136_194, e136_195, e136_196, e136_199, zs0, zsI, zsL, zsR, ztl1, ztl0, zc0, zcI, zcL, zcR, true_and, and_true, true_implies, false_implies, implies_true, not_true_eq_false, not_false_eq_true, and_self, Int.toNat_natCast, Nat.reduceAdd, Nat.reduceLeDiff, Nat.reduceLT, forall_eq', Option.some.injEq, zarR, zarI, zarL, zle, zq0, zq1, zq2, zq3, zq4, zq5, zq6, zq8, zq9, zq10, zq20, zq7, zq12, zq24, zq40, zq41, zq48, zq100, zq120, zq123, zq480, zq492, zq700, zq729, zq2187, zq2916, zq8748, ne_eq, Int.reduceEq, Int.reduceLT, Int.reduceLE, Int.reduceToNat, Int.reduceMul, Int.reduceAdd, Int.reduceNeg, gk91 hg, gr91_5 hg, gr91_22 hg, gr91_23 hg, gr91_24 hg, gr91_25 hg, gr91_26 hg, gr91_27 hg, gr91_28 hg, gr91_29 hg, gr91_32 hg, gr91_33 hg, gr91_34 hg, gr91_35 hg, gr91_36 hg, gr91_37 hg, gr91_38 hg, gr91_39 hg, gr91_40 hg, gr91_41 hg, gr91_42 hg, gr91_44 hg, gr91_45 hg, gr91_46 hg, gr91_48 hg, gr91_49 hg, gr91_50 hg, gr91_51 hg, gr91_52 hg, hv, n9, g0, i3, g1, g2, g3, g4, g5, wbv, vb, wr_s (show B < 2147483647 by omega)]
      obtain ⟨hf, ehf⟩ : ∃ z, z = zu (zu (zu (zu (zu (zu h7 (u + 5) B v3) (u + 6) B v4) (u + 7) B v5) (u + 8) B v6) (u + 9) B v7) u 1 ((B + 1 : Nat) : Int) := ⟨_, rfl⟩
      rw [← ehf]
      have fz : ∀ c i, ¬ (c = u ∧ i = 1) → ¬ (c = u + 5 ∧ i = B) → ¬ (c = u + 6 ∧ i = B) → ¬ (c = u + 7 ∧ i = B) → ¬ (c = u + 8 ∧ i = B) → ¬ (c = u + 9 ∧ i = B) → hf c i = h7 c i := fun c i z0 z1 z2 z3 z4 z5 => by rw [ehf, zu, if_neg z0, zu, if_neg z5, zu, if_neg z4, zu, if_neg z3, zu, if_neg z2, zu, if_neg z1]
      have bk : ∀ c i, ¬ (c = 91 ∧ 8 ≤ i ∧ i ≤ 15) → ¬ (c = u ∧ i = 4) → ¬ c = u + 10 → ¬ (c = u ∧ i = 1) → ¬ (c = u + 5 ∧ i = B) → ¬ (c = u + 6 ∧ i = B) → ¬ (c = u + 7 ∧ i = B) → ¬ (c = u + 8 ∧ i = B) → ¬ (c = u + 9 ∧ i = B) → hf c i = h c i := fun c i y1 y2 y3 z0 z1 z2 z3 z4 z5 => by rw [fz c i z0 z1 z2 z3 z4 z5, FF c i y1 y2 y3]
      apply K hf (fun c i z1 z2 => bk c i z1 (by omega) (by omega) (by omega) (by omega) (by omega) (by omega) (by omega) (by omega))
      refine ⟨MS_fr sL (fun i _ _ => fz _ _ (by omega) (by omega) (by omega) (by omega) (by omega) (by omega)) (fun i => fz _ _ (by omega) (by omega) (by omega) (by omega) (by omega) (by omega)), ⟨?_, ?_, ?_, ?_, ?_, ?_, ?_, ?_, ?_, ?_, ?_, ?_⟩, ?_, ?_, ?_, ?_⟩
      · rw [bk _ _ (by omega) (by omega) (by omega) (by omega) (by omega) (by omega) (by omega) (by omega) (by omega)]; exact r1
      · rw [ehf, zu_at, hBn]; rfl
      · rw [bk _ _ (by omega) (by omega) (by omega) (by omega) (by omega) (by omega) (by omega) (by omega) (by omega)]; exact r3
      · intro i hi
        have et : tr (srT D.1 p3.2 p4.2 p5.2 p6.2 pL.2) 0 i = tr D.1 0 i := by
          unfold tr srT
          simp only [Nat.reduceEqDiff, and_false, if_false]
        show hf (u + 1) i = tr (srT D.1 p3.2 p4.2 p5.2 p6.2 pL.2) 0 i
        rw [et, bk _ _ (by omega) (by omega) (by omega) (by omega) (by omega) (by omega) (by omega) (by omega) (by omega)]; exact r4 i hi
      · intro i hi
        have et : tr (srT D.1 p3.2 p4.2 p5.2 p6.2 pL.2) 1 i = tr D.1 1 i := by
          unfold tr srT
          simp only [Nat.reduceEqDiff, and_false, if_false]
        show hf (u + 2) i = tr (srT D.1 p3.2 p4.2 p5.2 p6.2 pL.2) 1 i
        rw [et, bk _ _ (by omega) (by omega) (by omega) (by omega) (by omega) (by omega) (by omega) (by omega) (by omega)]; exact r5 i hi
      · intro i hi
        have et : tr (srT D.1 p3.2 p4.2 p5.2 p6.2 pL.2) 2 i = tr D.1 2 i := by
          unfold tr srT
          simp only [Nat.reduceEqDiff, and_false, if_false]
        show hf (u + 3) i = tr (srT D.1 p3.2 p4.2 p5.2 p6.2 pL.2) 2 i
        rw [et, bk _ _ (by omega) (by omega) (by omega) (by omega) (by omega) (by omega) (by omega) (by omega) (by omega)]; exact r6 i hi
      · intro i hi
        have et : tr (srT D.1 p3.2 p4.2 p5.2 p6.2 pL.2) 8 i = tr D.1 8 i := by
          unfold tr srT
          simp only [Nat.reduceEqDiff, and_false, if_false]
        show hf (u + 4) i = tr (srT D.1 p3.2 p4.2 p5.2 p6.2 pL.2) 8 i
        rw [et, bk _ _ (by omega) (by omega) (by omega) (by omega) (by omega) (by omega) (by omega) (by omega) (by omega)]; exact r7 i hi
      · intro i hi
        have hi' : i < nS D.1 + 1 := hi
        have et : tr (srT D.1 p3.2 p4.2 p5.2 p6.2 pL.2) 3 i = if i = nS D.1 then p3.2 else tr D.1 3 i := by
          unfold tr srT
          dsimp only
          by_cases z : i = nS D.1
          · have z' : i = D.1.2.1 := z
            rw [if_pos z]
            simp only [z', true_and, if_true, Nat.reduceEqDiff, if_false]
          · have z' : ¬ i = D.1.2.1 := z
            rw [if_neg z]
            simp only [z', false_and, if_false]
        show hf (u + 5) i = tr (srT D.1 p3.2 p4.2 p5.2 p6.2 pL.2) 3 i
        rw [et]
        by_cases z : i = nS D.1
        · rw [if_pos z, z, ← hBn, ehf, zu_c (by omega), zu_c (by omega), zu_c (by omega), zu_c (by omega), zu_c (by omega), zu_at, x3]
        · rw [if_neg z, bk _ _ (by omega) (by omega) (by omega) (by omega) (by omega) (by omega) (by omega) (by omega) (by omega)]; exact r8 i (by omega)
      · intro i hi
        have hi' : i < nS D.1 + 1 := hi
        have et : tr (srT D.1 p3.2 p4.2 p5.2 p6.2 pL.2) 4 i = if i = nS D.1 then p4.2 else tr D.1 4 i := by
          unfold tr srT
          dsimp only
          by_cases z : i = nS D.1
          · have z' : i = D.1.2.1 := z
            rw [if_pos z]
            simp only [z', true_and, if_true, Nat.reduceEqDiff, if_false]
          · have z' : ¬ i = D.1.2.1 := z
            rw [if_neg z]
            simp only [z', false_and, if_false]
        show hf (u + 6) i = tr (srT D.1 p3.2 p4.2 p5.2 p6.2 pL.2) 4 i
        rw [et]
        by_cases z : i = nS D.1
        · rw [if_pos z, z, ← hBn, ehf, zu_c (by omega), zu_c (by omega), zu_c (by omega), zu_c (by omega), zu_at, x4]
        · rw [if_neg z, bk _ _ (by omega) (by omega) (by omega) (by omega) (by omega) (by omega) (by omega) (by omega) (by omega)]; exact r9 i (by omega)
      · intro i hi
        have hi' : i < nS D.1 + 1 := hi
        have et : tr (srT D.1 p3.2 p4.2 p5.2 p6.2 pL.2) 5 i = if i = nS D.1 then p5.2 else tr D.1 5 i := by
          unfold tr srT
          dsimp only
          by_cases z : i = nS D.1
          · have z' : i = D.1.2.1 := z
            rw [if_pos z]
            simp only [z', true_and, if_true, Nat.reduceEqDiff, if_false]
          · have z' : ¬ i = D.1.2.1 := z
            rw [if_neg z]
            simp only [z', false_and, if_false]
        show hf (u + 7) i = tr (srT D.1 p3.2 p4.2 p5.2 p6.2 pL.2) 5 i
        rw [et]
        by_cases z : i = nS D.1
        · rw [if_pos z, z, ← hBn, ehf, zu_c (by omega), zu_c (by omega), zu_c (by omega), zu_at, x5]
        · rw [if_neg z, bk _ _ (by omega) (by omega) (by omega) (by omega) (by omega) (by omega) (by omega) (by omega) (by omega)]; exact r10 i (by omega)
      · intro i hi
        have hi' : i < nS D.1 + 1 := hi
        have et : tr (srT D.1 p3.2 p4.2 p5.2 p6.2 pL.2) 6 i = if i = nS D.1 then p6.2 else tr D.1 6 i := by
          unfold tr srT
          dsimp only
          by_cases z : i = nS D.1
          · have z' : i = D.1.2.1 := z
            rw [if_pos z]
            simp only [z', true_and, if_true, Nat.reduceEqDiff, if_false]
          · have z' : ¬ i = D.1.2.1 := z
            rw [if_neg z]
            simp only [z', false_and, if_false]
        show hf (u + 8) i = tr (srT D.1 p3.2 p4.2 p5.2 p6.2 pL.2) 6 i
        rw [et]
        by_cases z : i = nS D.1
        · rw [if_pos z, z, ← hBn, ehf, zu_c (by omega), zu_c (by omega), zu_at, x6]
        · rw [if_neg z, bk _ _ (by omega) (by omega) (by omega) (by omega) (by omega) (by omega) (by omega) (by omega) (by omega)]; exact r11 i (by omega)
      · intro i hi
        have hi' : i < nS D.1 + 1 := hi
        have et : tr (srT D.1 p3.2 p4.2 p5.2 p6.2 pL.2) 7 i = if i = nS D.1 then pL.2 else tr D.1 7 i := by
          unfold tr srT
          dsimp only
          by_cases z : i = nS D.1
          · have z' : i = D.1.2.1 := z
            rw [if_pos z]
            simp only [z', true_and, if_true, Nat.reduceEqDiff, if_false]
          · have z' : ¬ i = D.1.2.1 := z
            rw [if_neg z]
            simp only [z', false_and, if_false]
        show hf (u + 9) i = tr (srT D.1 p3.2 p4.2 p5.2 p6.2 pL.2) 7 i
        rw [et]
        by_cases z : i = nS D.1
        · rw [if_pos z, z, ← hBn, ehf, zu_c (by omega), zu_at, x7]
        · rw [if_neg z, bk _ _ (by omega) (by omega) (by omega) (by omega) (by omega) (by omega) (by omega) (by omega) (by omega)]; exact r12 i (by omega)
      · intro z; rw [bk _ _ (by omega) (by omega) (by omega) (by omega) (by omega) (by omega) (by omega) (by omega) (by omega)]; exact rtw z
      · rw [bk _ _ (by omega) (by omega) (by omega) (by omega) (by omega) (by omega) (by omega) (by omega) (by omega)]; exact rkp
      · show hf u 4 = ((D.2.1 ++ _).length : Int)
        rw [List.length_append, fz _ _ (by omega) (by omega) (by omega) (by omega) (by omega) (by omega), F _ _ (by omega), mL]; rfl
      · intro i p hp; rw [fz _ _ (by omega) (by omega) (by omega) (by omega) (by omega) (by omega), F _ _ (by omega)]; exact mN i p hp
  by_cases f : nS D.1 = 4
  · have f' : ((nS D.1 : Nat) : Int) = 4 := by omega
    rw [if_pos f] at rest
    simp only [e136_0, e136_1, e136_2, e136_5, e136_8, e136_9, e136_12, e136_13, e136_16, e136_17, zs0, zsI, zsL, zsR, ztl1, ztl0, zc0, zcI, zcL, zcR, true_and, and_true, true_implies, false_implies, implies_true, not_true_eq_false, not_false_eq_true, and_self, Int.toNat_natCast, Nat.reduceAdd, Nat.reduceLeDiff, Nat.reduceLT, forall_eq', Option.some.injEq, zarR, zarI, zarL, zle, zq0, zq1, zq2, zq3, zq4, zq5, zq6, zq8, zq9, zq10, zq20, zq7, zq12, zq24, zq40, zq41, zq48, zq100, zq120, zq123, zq480, zq492, zq700, zq729, zq2187, zq2916, zq8748, ne_eq, Int.reduceEq, Int.reduceLT, Int.reduceLE, Int.reduceToNat, Int.reduceMul, Int.reduceAdd, Int.reduceNeg, gk91 hg, gr91_5 hg, gr91_22 hg, gr91_23 hg, gr91_24 hg, gr91_25 hg, gr91_26 hg, gr91_27 hg, gr91_28 hg, gr91_29 hg, gr91_32 hg, gr91_33 hg, gr91_34 hg, gr91_35 hg, gr91_36 hg, gr91_37 hg, gr91_38 hg, gr91_39 hg, gr91_40 hg, gr91_41 hg, gr91_42 hg, gr91_44 hg, gr91_45 hg, gr91_46 hg, gr91_48 hg, gr91_49 hg, gr91_50 hg, gr91_51 hg, gr91_52 hg, hv, r2, f']
    show zRunD ztb zmt' (d + 4) 134 [zR (some 91), zI ((1 : Nat) : Int)] G h _
    exact m_readNamed (d := d + 1) hg hv c (by omega) k (Or.inr ⟨rfl, by omega⟩) (fun h2 f2 s2 m2 => rest h2 f2 s2 m2)
  · have f' : ¬ ((nS D.1 : Nat) : Int) = 4 := by omega
    rw [if_neg f] at rest
    simp only [e136_0, e136_1, e136_2, e136_5, e136_8, e136_9, e136_12, e136_13, e136_16, e136_17, zs0, zsI, zsL, zsR, ztl1, ztl0, zc0, zcI, zcL, zcR, true_and, and_true, true_implies, false_implies, implies_true, not_true_eq_false, not_false_eq_true, and_self, Int.toNat_natCast, Nat.reduceAdd, Nat.reduceLeDiff, Nat.reduceLT, forall_eq', Option.some.injEq, zarR, zarI, zarL, zle, zq0, zq1, zq2, zq3, zq4, zq5, zq6, zq8, zq9, zq10, zq20, zq7, zq12, zq24, zq40, zq41, zq48, zq100, zq120, zq123, zq480, zq492, zq700, zq729, zq2187, zq2916, zq8748, ne_eq, Int.reduceEq, Int.reduceLT, Int.reduceLE, Int.reduceToNat, Int.reduceMul, Int.reduceAdd, Int.reduceNeg, gk91 hg, gr91_5 hg, gr91_22 hg, gr91_23 hg, gr91_24 hg, gr91_25 hg, gr91_26 hg, gr91_27 hg, gr91_28 hg, gr91_29 hg, gr91_32 hg, gr91_33 hg, gr91_34 hg, gr91_35 hg, gr91_36 hg, gr91_37 hg, gr91_38 hg, gr91_39 hg, gr91_40 hg, gr91_41 hg, gr91_42 hg, gr91_44 hg, gr91_45 hg, gr91_46 hg, gr91_48 hg, gr91_49 hg, gr91_50 hg, gr91_51 hg, gr91_52 hg, hv, r2, f']
    show zRunD ztb zmt' (d + 4) 134 [zR (some 91), zI ((0 : Nat) : Int)] G h _
    exact m_readNamed (d := d + 1) hg hv c (by omega) k (Or.inl ⟨rfl, by omega⟩) (fun h2 f2 s2 m2 => rest h2 f2 s2 m2)
end MB
