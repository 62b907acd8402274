/-! from how many far looking ones nobody lures -/
def nfE (T : aTn) (f : Nat) (s : Nat) : Int := if s < nS T then tr T 3 s * (f : Int) / 100 else 0
def nnE (T : aTn) (f : Nat) (s : Nat) : Int := if s < nS T then tr T 3 s - nfE T f s else 0
theorem nfE_b {T : aTn} (hw : wT T) {f : Nat} (hf : f ≤ 100) (s : Nat) : 0 ≤ tr T 3 s * (f : Int) / 100 ∧ tr T 3 s * (f : Int) / 100 ≤ tr T 3 s ∧ 0 ≤ tr T 3 s * (f : Int) ∧ tr T 3 s * (f : Int) ≤ 9900 := by
  have h1 := (hw.2.2.2.2.2 s).2.2.2.1
  have h2 := mulb (n := tr T 3 s) (p := (f : Int)) (N := tr T 3 s) (lo := 0) (hi := 100) h1.1 (Int.le_refl _) (by omega) (by omega) (by decide) (by decide)
  omega
theorem fBE {T : aTn} (hw : wT T) {f : Nat} (hf : f ≤ 100) : fB (nnE T f) (nfE T f) := by
  intro s
  have h1 := (hw.2.2.2.2.2 s).2.2.2.1
  have h2 := nfE_b hw hf s
  unfold nnE nfE
  split <;> omega
/-- somebody lures by these acts -/
def lu (T : aTn) (ac : Nat → Nat) (a : Nat) : Prop := ∃ b, b < nB T ∧ aNw T (aAct ac (nB T) a b) < aOld T (aAct ac (nB T) a b)
def luF (T : aTn) (hd : Nat → Nat → Int) (f : Nat) : Prop := lu (aLaw T 5) (fun _ => nA (aLaw T 5)) (calm (fun _ => nA (aLaw T 5)) (nB T) (rW (aLaw T 5) (fun _ => nA (aLaw T 5)) (nnE T f) (nfE T f) 1 hd))
theorem first_F (P : Nat → Prop) : ∀ k, (∃ F, F < k ∧ ¬ P F ∧ ∀ f, f < F → P f) ∨ ∀ f, f < k → P f := by
  intro k
  induction k with
  | zero => right; intro f hf; omega
  | succ k ih =>
    rcases ih with ⟨F, h1, h2, h3⟩ | ih
    · left; exact ⟨F, by omega, h2, h3⟩
    · by_cases c : P k
      · right
        intro f hf
        by_cases q : f = k
        · rw [q]; exact c
        · exact ih f (by omega)
      · left
        exact ⟨k, by omega, c, ih⟩
section ED
variable {d : Nat} {Q : zQ} {G : zG} {h : zM} {T : aTn} {ac : Nat → Nat} {u Y f a : Nat}
theorem c_share (hg : gS G) (kt : kT h 49 (aLaw T 5)) (hw : wT T) (hf : f ≤ 100) (K : ∀ (v : Int) (h' : zM), (∀ c i, ¬ c = 62 → ¬ c = 63 → h' c i = h c i) → (∀ s, s < nS T → h' 62 s = nnE T f s ∧ h' 63 s = nfE T f s) → (v = 0 ∧ (∀ s, s < nS T → h 62 s = nnE T f s ∧ h 63 s = nfE T f s) ∨ v = 1) → Q (some (zI v)) G h') : zRunD ztb zmt' (d + 2) 34 [zR (some 46), zI f] G h Q := by
  rw [r34]
  have hs4 := hw.2.1
  have lp : ∀ j s (v : Int) (h1 : zM), s + j = nS T → (∀ c i, ¬ (c = 62 ∧ i < s) → ¬ (c = 63 ∧ i < s) → h1 c i = h c i) → (∀ i, i < s → h1 62 i = nnE T f i ∧ h1 63 i = nfE T f i) → (v = 0 ∧ (∀ i, i < s → h 62 i = nnE T f i ∧ h 63 i = nfE T f i) ∨ v = 1) → zE 34 (d + 1) Q 4 [some (zR (some 46)), some (zI f), some (zI v), some (zI s)] [] G h1 (0, 0) := by
    intro j
    induction j with
    | zero =>
      intro s v h1 hj g m1 m2
      have hj' : s = nS T := by omega
      subst hj'
      have e10 : h1 49 10 = (nS T : Int) := by rw [g _ _ (by omega) (by omega)]; exact kt.2.1
      have v01 : v = 0 ∨ v = 1 := by rcases m2 with ⟨q, _⟩ | q <;> omega
      rw [e34_4]
      simp only [e34_0, e34_1, e34_2, e34_3, e34_5, e34_6, e34_9, e34_12, e34_15, e34_16, e34_19, e34_20, e34_21, e34_24, e34_27, e34_28, e34_29, e34_30, e34_33, e34_36, e34_37, e34_38, e34_39, e34_40, e34_42, e34_43, e34_46, e34_49, e34_50, e34_51, e34_54, e34_57, e34_58, zs0, zsI, zsL, zsR, ztl1, ztl0, zc0, zcI, zcL, zcR, true_and, and_true, true_implies, false_implies, implies_true, not_true_eq_false, not_false_eq_true, and_self, Int.toNat_natCast, Nat.reduceAdd, Nat.reduceLeDiff, Nat.reduceLT, forall_eq', Option.some.injEq, zarR, zarI, zarL, zle, zq0, zq1, zq2, zq3, zq4, zq5, zq6, zq8, zq9, zq10, zq20, zq7, zq12, zq24, zq40, zq41, zq48, zq100, zq120, zq123, zq480, zq492, zq700, zq729, zq2187, zq2916, zq8748, ne_eq, Int.reduceEq, Int.reduceLT, Int.reduceLE, Int.reduceToNat, Int.reduceMul, Int.reduceAdd, Int.reduceNeg, gk46 hg, gr46_0 hg, gr46_1 hg, gr46_2 hg, gr46_3 hg, gr46_4 hg, gr46_6 hg, gr46_7 hg, gr46_8 hg, gr46_9 hg, gr46_10 hg, gr46_11 hg, gr46_12 hg, gr46_13 hg, gk49 hg, gr49_0 hg, gr49_1 hg, gr49_2 hg, gr49_3 hg, gr49_4 hg, gr49_5 hg, gr49_6 hg, gr49_7 hg, gr49_8 hg, or_true, true_or, if_true, if_false, false_and, and_false, false_or, or_false, e10, Int.le_refl, v01]
      exact K v h1 (fun c i q1 q2 => g c i (by omega) (by omega)) m1 m2
    | succ j ih =>
      intro s v h1 hj g m1 m2
      have e10 : h1 49 10 = (nS T : Int) := by rw [g _ _ (by omega) (by omega)]; exact kt.2.1
      have c : ¬ (nS T : Int) ≤ s := by omega
      have s4 : (s : Int) < 4 := by omega
      have e3 : h1 53 s = tr T 3 s := by
        rw [g _ _ (by omega) (by omega), kt.2.2.2.2.2.2.2.2.1 s (show s < nS T by omega)]
        exact aLaw_o (by decide) (by decide)
      have b1 := nfE_b hw hf s
      have b3 := (hw.2.2.2.2.2 s).2.2.2.1
      have w1 : wr (tr T 3 s * (f : Int)) = tr T 3 s * (f : Int) := wr_id (by omega)
      have w2 : wr ((tr T 3 s * (f : Int)).tdiv 100) = tr T 3 s * (f : Int) / 100 := by
        rw [Int.tdiv_eq_ediv_of_nonneg (by omega), wr_id (by omega)]
      have cb := fun Q' => c_bring47 (d := d) (Q := Q') (h := h1) hg (s := s) (f := tr T 3 s) (r := tr T 3 s * (f : Int) / 100) (by omega) (by omega) (by omega)
      have q1 : nfE T f s = tr T 3 s * (f : Int) / 100 := by unfold nfE; rw [if_pos (by omega)]
      have q2 : nnE T f s = tr T 3 s - tr T 3 s * (f : Int) / 100 := by unfold nnE; rw [if_pos (by omega), q1]
      have o2 : h1 62 s = h 62 s := g _ _ (by omega) (by omega)
      have o3 : h1 63 s = h 63 s := g _ _ (by omega) (by omega)
      have nxt : ∀ v' : Int, (v' = 0 ∧ (∀ i, i < s + 1 → h 62 i = nnE T f i ∧ h 63 i = nfE T f i) ∨ v' = 1) → zE 34 (d + 1) Q 4 [some (zR (some 46)), some (zI f), some (zI v'), some (zI ((s + 1 : Nat) : Int))] [] G (zu (zu h1 63 s (tr T 3 s * (f : Int) / 100)) 62 s (tr T 3 s - tr T 3 s * (f : Int) / 100)) (0, 0) := by
        intro v' hv
        apply ih (s + 1) v' _ (by omega)
        · intro c i z1 z2
          rw [zu, if_neg (by omega), zu, if_neg (by omega)]
          exact g c i (by omega) (by omega)
        · intro i hi
          by_cases q : i = s
          · subst q
            rw [zu_at, zu_c (by decide), zu_at]
            exact ⟨q2.symm, q1.symm⟩
          · rw [zu_i (by omega), zu_c (by decide), zu_c (by decide), zu_i (by omega)]
            exact m1 i (by omega)
        · exact hv
      rw [e34_4]
      by_cases cc : h1 63 s = tr T 3 s * (f : Int) / 100 ∧ h1 62 s = tr T 3 s - tr T 3 s * (f : Int) / 100
      · rw [if_pos cc] at cb
        simp only [e34_0, e34_1, e34_2, e34_3, e34_5, e34_6, e34_9, e34_12, e34_15, e34_16, e34_19, e34_20, e34_21, e34_24, e34_27, e34_28, e34_29, e34_30, e34_33, e34_36, e34_37, e34_38, e34_39, e34_40, e34_42, e34_43, e34_46, e34_49, e34_50, e34_51, e34_54, e34_57, e34_58, zs0, zsI, zsL, zsR, ztl1, ztl0, zc0, zcI, zcL, zcR, true_and, and_true, true_implies, false_implies, implies_true, not_true_eq_false, not_false_eq_true, and_self, Int.toNat_natCast, Nat.reduceAdd, Nat.reduceLeDiff, Nat.reduceLT, forall_eq', Option.some.injEq, zarR, zarI, zarL, zle, zq0, zq1, zq2, zq3, zq4, zq5, zq6, zq8, zq9, zq10, zq20, zq7, zq12, zq24, zq40, zq41, zq48, zq100, zq120, zq123, zq480, zq492, zq700, zq729, zq2187, zq2916, zq8748, ne_eq, Int.reduceEq, Int.reduceLT, Int.reduceLE, Int.reduceToNat, Int.reduceMul, Int.reduceAdd, Int.reduceNeg, gk46 hg, gr46_0 hg, gr46_1 hg, gr46_2 hg, gr46_3 hg, gr46_4 hg, gr46_6 hg, gr46_7 hg, gr46_8 hg, gr46_9 hg, gr46_10 hg, gr46_11 hg, gr46_12 hg, gr46_13 hg, gk47 hg, gr47_0 hg, gr47_1 hg, gr47_2 hg, gr47_3 hg, gr47_4 hg, gr47_5 hg, gr47_6 hg, gr47_7 hg, gr47_8 hg, gk49 hg, gr49_0 hg, gr49_1 hg, gr49_2 hg, gr49_3 hg, gr49_4 hg, gr49_5 hg, gr49_6 hg, gr49_7 hg, gr49_8 hg, gk53 hg, gl53 hg, or_true, true_or, if_true, if_false, false_and, and_false, false_or, or_false, e10, c, s4, e3, w1, w2, cb, wr_s (show s < 2147483647 by omega)]
        apply nxt
        rcases m2 with ⟨v0, m2⟩ | m2
        · left
          refine ⟨v0, fun i hi => ?_⟩
          by_cases q : i = s
          · subst q
            exact ⟨by rw [← o2, cc.2, q2], by rw [← o3, cc.1, q1]⟩
          · exact m2 i (by omega)
        · right; exact m2
      · rw [if_neg cc] at cb
        simp only [e34_0, e34_1, e34_2, e34_3, e34_5, e34_6, e34_9, e34_12, e34_15, e34_16, e34_19, e34_20, e34_21, e34_24, e34_27, e34_28, e34_29, e34_30, e34_33, e34_36, e34_37, e34_38, e34_39, e34_40, e34_42, e34_43, e34_46, e34_49, e34_50, e34_51, e34_54, e34_57, e34_58, zs0, zsI, zsL, zsR, ztl1, ztl0, zc0, zcI, zcL, zcR, true_and, and_true, true_implies, false_implies, implies_true, not_true_eq_false, not_false_eq_true, and_self, Int.toNat_natCast, Nat.reduceAdd, Nat.reduceLeDiff, Nat.reduceLT, forall_eq', Option.some.injEq, zarR, zarI, zarL, zle, zq0, zq1, zq2, zq3, zq4, zq5, zq6, zq8, zq9, zq10, zq20, zq7, zq12, zq24, zq40, zq41, zq48, zq100, zq120, zq123, zq480, zq492, zq700, zq729, zq2187, zq2916, zq8748, ne_eq, Int.reduceEq, Int.reduceLT, Int.reduceLE, Int.reduceToNat, Int.reduceMul, Int.reduceAdd, Int.reduceNeg, gk46 hg, gr46_0 hg, gr46_1 hg, gr46_2 hg, gr46_3 hg, gr46_4 hg, gr46_6 hg, gr46_7 hg, gr46_8 hg, gr46_9 hg, gr46_10 hg, gr46_11 hg, gr46_12 hg, gr46_13 hg, gk47 hg, gr47_0 hg, gr47_1 hg, gr47_2 hg, gr47_3 hg, gr47_4 hg, gr47_5 hg, gr47_6 hg, gr47_7 hg, gr47_8 hg, gk49 hg, gr49_0 hg, gr49_1 hg, gr49_2 hg, gr49_3 hg, gr49_4 hg, gr49_5 hg, gr49_6 hg, gr49_7 hg, gr49_8 hg, gk53 hg, gl53 hg, or_true, true_or, if_true, if_false, false_and, and_false, false_or, or_false, e10, c, s4, e3, w1, w2, cb, wr_s (show s < 2147483647 by omega)]
        exact nxt 1 (Or.inr rfl)
  simp only [e34_0, e34_1, e34_2, e34_3, e34_5, e34_6, e34_9, e34_12, e34_15, e34_16, e34_19, e34_20, e34_21, e34_24, e34_27, e34_28, e34_29, e34_30, e34_33, e34_36, e34_37, e34_38, e34_39, e34_40, e34_42, e34_43, e34_46, e34_49, e34_50, e34_51, e34_54, e34_57, e34_58, zs0, zsI, zsL, zsR, ztl1, ztl0, zc0, zcI, zcL, zcR, true_and, and_true, true_implies, false_implies, implies_true, not_true_eq_false, not_false_eq_true, and_self, Int.toNat_natCast, Nat.reduceAdd, Nat.reduceLeDiff, Nat.reduceLT, forall_eq', Option.some.injEq, zarR, zarI, zarL, zle, zq0, zq1, zq2, zq3, zq4, zq5, zq6, zq8, zq9, zq10, zq20, zq7, zq12, zq24, zq40, zq41, zq48, zq100, zq120, zq123, zq480, zq492, zq700, zq729, zq2187, zq2916, zq8748, ne_eq, Int.reduceEq, Int.reduceLT, Int.reduceLE, Int.reduceToNat, Int.reduceMul, Int.reduceAdd, Int.reduceNeg, or_true, true_or, if_true, if_false, false_and, and_false, false_or, or_false]
  have l0 := lp (nS T) 0 0 h (by omega) (fun _ _ _ _ => rfl) (fun i hi => by omega) (Or.inl ⟨rfl, fun i hi => by omega⟩)
  simp only [zq0] at l0
  exact l0
theorem c_any (hg : gS G) (hw : wT T) (hc : acOk T ac) {nn nf : Nat → Int} (hf : fB nn nf) (hN : 1 * (tg ac (nB T) * nB T) ≤ 2187) {hd : Nat → Nat → Int} {B : Int} (b1 : hB hd B) (b2 : -100 ≤ B) (b3 : B + 100 * (1 : Nat) ≤ 2000000) (h20 : nB T = 2 → ∀ s, hd s 2 = 0) (hP : sPre T ac nn nf 1 hd h) (K : ∀ (v : Int) (h' : zM), sPost T ac nn nf 1 hd h h' → (v = 1 ∧ lu T ac (calm ac (nB T) (rW T ac nn nf 1 hd)) ∨ v = 0 ∧ ¬ lu T ac (calm ac (nB T) (rW T ac nn nf 1 hd))) → Q (some (zI v)) G h') : zRunD ztb zmt' (d + 9) 44 [zR (some 46)] G h Q := by
  rw [r44]
  have hb3 := hw.1
  have hp3 := hw.2.2.1
  have t1 := tg_b hw hc
  simp only [e44_0, e44_1, e44_2, zs0, zsI, zsL, zsR, ztl1, ztl0, zc0, zcI, zcL, zcR, true_and, and_true, true_implies, false_implies, implies_true, not_true_eq_false, not_false_eq_true, and_self, Int.toNat_natCast, Nat.reduceAdd, Nat.reduceLeDiff, Nat.reduceLT, forall_eq', Option.some.injEq, zarR, zarI, zarL, zle, zq0, zq1, zq2, zq3, zq4, zq5, zq6, zq8, zq9, zq10, zq20, zq7, zq12, zq24, zq40, zq41, zq48, zq100, zq120, zq123, zq480, zq492, zq700, zq729, zq2187, zq2916, zq8748, ne_eq, Int.reduceEq, Int.reduceLT, Int.reduceLE, Int.reduceToNat, Int.reduceMul, Int.reduceAdd, Int.reduceNeg, gk46 hg, gr46_0 hg, gr46_1 hg, gr46_2 hg, gr46_3 hg, gr46_4 hg, gr46_6 hg, gr46_7 hg, gr46_8 hg, gr46_9 hg, gr46_10 hg, gr46_11 hg, gr46_12 hg, gr46_13 hg]
  have cs := c_set (d := d) (y := 1) (Q := fun v G' h' => zE 44 (d + 8) Q 5 [some (zR (some 46)), none, none, none] (v.toList ++ []) G' h' (0, 0)) hg hw hc hf (by decide) (by decide) hN b1 b2 b3 h20 hP
  rw [zq1] at cs
  apply cs
  intro h2 hp
  obtain ⟨a, ha⟩ : ∃ a : Nat, a = calm ac (nB T) (rW T ac nn nf 1 hd) := ⟨_, rfl⟩
  have cb := calm_b (ac := ac) (nb := nB T) (w := rW T ac nn nf 1 hd) (by omega)
  rw [← ha] at cb K ⊢
  have fs := hp.1
  have kt2 : kT h2 49 T := kT_frame hP.1 (fun c i q1 q2 => fs c i (by omega) (by omega) (by omega) (by omega) (by omega) (by omega) (by omega) (by omega))
  have sR2 : sR h2 T ac := ⟨fun b hb => by rw [fs _ _ (by omega) (by omega) (by omega) (by omega) (by omega) (by omega) (by omega) (by omega)]; exact hP.2.1.1.1 b hb, fun b hb => by rw [fs _ _ (by omega) (by omega) (by omega) (by omega) (by omega) (by omega) (by omega) (by omega)]; exact hP.2.1.1.2 b hb⟩
  have e9 := kt2.1
  have lp : ∀ j b (l3 : Option zV), b + j = nB T → (∀ i, i < b → ¬ aNw T (aAct ac (nB T) a i) < aOld T (aAct ac (nB T) a i)) → zE 44 (d + 8) Q 8 [some (zR (some 46)), some (zI (a : Nat)), some (zI b), l3] [] G h2 (0, 0) := by
    intro j
    induction j with
    | zero =>
      intro b l3 hj m
      have hj' : b = nB T := by omega
      subst hj'
      rw [e44_8]
      simp only [e44_0, e44_1, e44_2, e44_5, e44_6, e44_7, e44_9, e44_10, e44_13, e44_16, e44_19, e44_20, e44_21, e44_22, e44_25, e44_26, e44_27, e44_30, e44_31, e44_34, e44_35, e44_38, e44_39, e44_42, e44_45, e44_46, e44_47, e44_50, e44_53, e44_54, zs0, zsI, zsL, zsR, ztl1, ztl0, zc0, zcI, zcL, zcR, true_and, and_true, true_implies, false_implies, implies_true, not_true_eq_false, not_false_eq_true, and_self, Int.toNat_natCast, Nat.reduceAdd, Nat.reduceLeDiff, Nat.reduceLT, forall_eq', Option.some.injEq, zarR, zarI, zarL, zle, zq0, zq1, zq2, zq3, zq4, zq5, zq6, zq8, zq9, zq10, zq20, zq7, zq12, zq24, zq40, zq41, zq48, zq100, zq120, zq123, zq480, zq492, zq700, zq729, zq2187, zq2916, zq8748, ne_eq, Int.reduceEq, Int.reduceLT, Int.reduceLE, Int.reduceToNat, Int.reduceMul, Int.reduceAdd, Int.reduceNeg, gk46 hg, gr46_0 hg, gr46_1 hg, gr46_2 hg, gr46_3 hg, gr46_4 hg, gr46_6 hg, gr46_7 hg, gr46_8 hg, gr46_9 hg, gr46_10 hg, gr46_11 hg, gr46_12 hg, gr46_13 hg, gk49 hg, gr49_0 hg, gr49_1 hg, gr49_2 hg, gr49_3 hg, gr49_4 hg, gr49_5 hg, gr49_6 hg, gr49_7 hg, gr49_8 hg, or_true, true_or, if_true, if_false, false_and, and_false, false_or, or_false, e9, Int.le_refl]
      refine K 0 h2 hp (Or.inr ⟨rfl, ?_⟩)
      rintro ⟨b, q1, q2⟩
      exact m b q1 q2
    | succ j ih =>
      intro b l3 hj m
      have c : ¬ (nB T : Int) ≤ b := by omega
      have a1000 : ((aAct ac (nB T) a b : Nat) : Int) < 1000 := by
        have q1 := aAct_b hc (nB T) a b
        have q2 := nA_b hw
        omega
      have ra := fun Q' => c_ract (d := d + 7) (Q := Q') (h := h2) (all := a) (b := b) hg hw hc sR2 (by omega) (by omega)
      have co := fun Q' => c_old47 (d := d + 7) (Q := Q') (h := h2) (T := T) (a := aAct ac (nB T) a b) hg kt2 (by omega) a1000
      have cn := fun Q' => c_new47 (d := d + 7) (Q := Q') (h := h2) (T := T) (a := aAct ac (nB T) a b) hg kt2 (by omega)
      rw [e44_8]
      by_cases q : aNw T (aAct ac (nB T) a b) < aOld T (aAct ac (nB T) a b)
      · have q2 : ¬ ((aOld T (aAct ac (nB T) a b) : Nat) : Int) ≤ ((aNw T (aAct ac (nB T) a b) : Nat) : Int) := by omega
        simp only [e44_0, e44_1, e44_2, e44_5, e44_6, e44_7, e44_9, e44_10, e44_13, e44_16, e44_19, e44_20, e44_21, e44_22, e44_25, e44_26, e44_27, e44_30, e44_31, e44_34, e44_35, e44_38, e44_39, e44_42, e44_45, e44_46, e44_47, e44_50, e44_53, e44_54, zs0, zsI, zsL, zsR, ztl1, ztl0, zc0, zcI, zcL, zcR, true_and, and_true, true_implies, false_implies, implies_true, not_true_eq_false, not_false_eq_true, and_self, Int.toNat_natCast, Nat.reduceAdd, Nat.reduceLeDiff, Nat.reduceLT, forall_eq', Option.some.injEq, zarR, zarI, zarL, zle, zq0, zq1, zq2, zq3, zq4, zq5, zq6, zq8, zq9, zq10, zq20, zq7, zq12, zq24, zq40, zq41, zq48, zq100, zq120, zq123, zq480, zq492, zq700, zq729, zq2187, zq2916, zq8748, ne_eq, Int.reduceEq, Int.reduceLT, Int.reduceLE, Int.reduceToNat, Int.reduceMul, Int.reduceAdd, Int.reduceNeg, gk46 hg, gr46_0 hg, gr46_1 hg, gr46_2 hg, gr46_3 hg, gr46_4 hg, gr46_6 hg, gr46_7 hg, gr46_8 hg, gr46_9 hg, gr46_10 hg, gr46_11 hg, gr46_12 hg, gr46_13 hg, gk49 hg, gr49_0 hg, gr49_1 hg, gr49_2 hg, gr49_3 hg, gr49_4 hg, gr49_5 hg, gr49_6 hg, gr49_7 hg, gr49_8 hg, or_true, true_or, if_true, if_false, false_and, and_false, false_or, or_false, e9, c, ra, co, cn, q2]
        exact K 1 h2 hp (Or.inl ⟨rfl, b, by omega, q⟩)
      · have q2 : ((aOld T (aAct ac (nB T) a b) : Nat) : Int) ≤ ((aNw T (aAct ac (nB T) a b) : Nat) : Int) := by omega
        simp only [e44_0, e44_1, e44_2, e44_5, e44_6, e44_7, e44_9, e44_10, e44_13, e44_16, e44_19, e44_20, e44_21, e44_22, e44_25, e44_26, e44_27, e44_30, e44_31, e44_34, e44_35, e44_38, e44_39, e44_42, e44_45, e44_46, e44_47, e44_50, e44_53, e44_54, zs0, zsI, zsL, zsR, ztl1, ztl0, zc0, zcI, zcL, zcR, true_and, and_true, true_implies, false_implies, implies_true, not_true_eq_false, not_false_eq_true, and_self, Int.toNat_natCast, Nat.reduceAdd, Nat.reduceLeDiff, Nat.reduceLT, forall_eq', Option.some.injEq, zarR, zarI, zarL, zle, zq0, zq1, zq2, zq3, zq4, zq5, zq6, zq8, zq9, zq10, zq20, zq7, zq12, zq24, zq40, zq41, zq48, zq100, zq120, zq123, zq480, zq492, zq700, zq729, zq2187, zq2916, zq8748, ne_eq, Int.reduceEq, Int.reduceLT, Int.reduceLE, Int.reduceToNat, Int.reduceMul, Int.reduceAdd, Int.reduceNeg, gk46 hg, gr46_0 hg, gr46_1 hg, gr46_2 hg, gr46_3 hg, gr46_4 hg, gr46_6 hg, gr46_7 hg, gr46_8 hg, gr46_9 hg, gr46_10 hg, gr46_11 hg, gr46_12 hg, gr46_13 hg, gk49 hg, gr49_0 hg, gr49_1 hg, gr49_2 hg, gr49_3 hg, gr49_4 hg, gr49_5 hg, gr49_6 hg, gr49_7 hg, gr49_8 hg, or_true, true_or, if_true, if_false, false_and, and_false, false_or, or_false, e9, c, ra, co, cn, q2, wr_s (show b < 2147483647 by omega)]
        apply ih (b + 1) _ (by omega)
        intro i hi
        by_cases z : i = b
        · rw [z]; exact q
        · exact m i (by omega)
  simp only [e44_5, e44_6, e44_7, e44_9, e44_10, e44_13, e44_16, e44_19, e44_20, e44_21, e44_22, e44_25, e44_26, e44_27, e44_30, e44_31, e44_34, e44_35, e44_38, e44_39, e44_42, e44_45, e44_46, e44_47, e44_50, e44_53, e44_54, zs0, zsI, zsL, zsR, ztl1, ztl0, zc0, zcI, zcL, zcR, true_and, and_true, true_implies, false_implies, implies_true, not_true_eq_false, not_false_eq_true, and_self, Int.toNat_natCast, Nat.reduceAdd, Nat.reduceLeDiff, Nat.reduceLT, forall_eq', Option.some.injEq, zarR, zarI, zarL, zle, zq0, zq1, zq2, zq3, zq4, zq5, zq6, zq8, zq9, zq10, zq20, zq7, zq12, zq24, zq40, zq41, zq48, zq100, zq120, zq123, zq480, zq492, zq700, zq729, zq2187, zq2916, zq8748, ne_eq, Int.reduceEq, Int.reduceLT, Int.reduceLE, Int.reduceToNat, Int.reduceMul, Int.reduceAdd, Int.reduceNeg]
  have l0 := fun l3 => lp (nB T) 0 l3 (by omega) (fun i hi => by omega)
  simp only [zq0] at l0
  exact l0 _
theorem m_some (hg : gS G) (hu : gU G u) (V : rV h u T) (hw : wT T) (hc : acOk T ac) (hA : rA h T ac) (ha : a < tg ac (nB T)) (K : ∀ v : Int, (v = 1 ∧ lu T ac a ∨ v = 0 ∧ ¬ lu T ac a) → Q (some (zI v)) G h) : zRunD ztb zmt' (d + 4) 206 [zR (some 91), zI a] G h Q := by
  rw [r206]
  have hb3 := hw.1
  have t1 := tg_b hw hc
  have e9 := V.1
  have lp : ∀ j b, b + j = nB T → (∀ i, i < b → ¬ aNw T (aAct ac (nB T) a i) < aOld T (aAct ac (nB T) a i)) → zE 206 (d + 3) Q 2 [some (zR (some 91)), some (zI (a : Nat)), some (zI b)] [] G h (0, 0) := by
    intro j
    induction j with
    | zero =>
      intro b hj m
      have hj' : b = nB T := by omega
      subst hj'
      rw [e206_2]
      simp only [e206_0, e206_1, e206_3, e206_4, e206_7, e206_10, e206_13, e206_14, e206_15, e206_16, e206_17, e206_20, e206_23, e206_24, e206_25, e206_26, e206_27, e206_30, e206_33, e206_36, e206_37, e206_38, e206_41, e206_44, e206_45, zs0, zsI, zsL, zsR, ztl1, ztl0, zc0, zcI, zcL, zcR, true_and, and_true, true_implies, false_implies, implies_true, not_true_eq_false, not_false_eq_true, and_self, Int.toNat_natCast, Nat.reduceAdd, Nat.reduceLeDiff, Nat.reduceLT, forall_eq', Option.some.injEq, zarR, zarI, zarL, zle, zq0, zq1, zq2, zq3, zq4, zq5, zq6, zq8, zq9, zq10, zq20, zq7, zq12, zq24, zq40, zq41, zq48, zq100, zq120, zq123, zq480, zq492, zq700, zq729, zq2187, zq2916, zq8748, ne_eq, Int.reduceEq, Int.reduceLT, Int.reduceLE, Int.reduceToNat, Int.reduceMul, Int.reduceAdd, Int.reduceNeg, gk91 hg, gr91_5 hg, gr91_22 hg, gr91_23 hg, gr91_24 hg, gr91_25 hg, gr91_26 hg, gr91_27 hg, gr91_28 hg, gr91_29 hg, gr91_32 hg, gr91_33 hg, gr91_34 hg, gr91_35 hg, gr91_36 hg, gr91_37 hg, gr91_38 hg, gr91_39 hg, gr91_40 hg, gr91_41 hg, gr91_42 hg, gr91_44 hg, gr91_45 hg, gr91_46 hg, gr91_48 hg, gr91_49 hg, gr91_50 hg, gr91_51 hg, gr91_52 hg, or_true, true_or, if_true, if_false, false_and, and_false, false_or, or_false, hu, e9, Int.le_refl]
      refine K 0 (Or.inr ⟨rfl, ?_⟩)
      rintro ⟨b, q1, q2⟩
      exact m b q1 q2
    | succ j ih =>
      intro b hj m
      have c : ¬ (nB T : Int) ≤ b := by omega
      have a1000 : ((aAct ac (nB T) a b : Nat) : Int) < 1000 := by
        have q1 := aAct_b hc (nB T) a b
        have q2 := nA_b hw
        omega
      have ra := fun Q' => m_ract (d := d) (Q := Q') (h := h) (all := a) (b := b) hg hu V hw hc hA (by omega) (by omega)
      have co := fun Q' => m_old (d := d + 2) (Q := Q') (h := h) (a := aAct ac (nB T) a b) hg hu V hw a1000
      have cn := fun Q' => m_new (d := d + 2) (Q := Q') (h := h) (a := aAct ac (nB T) a b) hg hu V hw
      rw [e206_2]
      by_cases q : aNw T (aAct ac (nB T) a b) < aOld T (aAct ac (nB T) a b)
      · have q2 : ¬ ((aOld T (aAct ac (nB T) a b) : Nat) : Int) ≤ ((aNw T (aAct ac (nB T) a b) : Nat) : Int) := by omega
        simp only [e206_0, e206_1, e206_3, e206_4, e206_7, e206_10, e206_13, e206_14, e206_15, e206_16, e206_17, e206_20, e206_23, e206_24, e206_25, e206_26, e206_27, e206_30, e206_33, e206_36, e206_37, e206_38, e206_41, e206_44, e206_45, zs0, zsI, zsL, zsR, ztl1, ztl0, zc0, zcI, zcL, zcR, true_and, and_true, true_implies, false_implies, implies_true, not_true_eq_false, not_false_eq_true, and_self, Int.toNat_natCast, Nat.reduceAdd, Nat.reduceLeDiff, Nat.reduceLT, forall_eq', Option.some.injEq, zarR, zarI, zarL, zle, zq0, zq1, zq2, zq3, zq4, zq5, zq6, zq8, zq9, zq10, zq20, zq7, zq12, zq24, zq40, zq41, zq48, zq100, zq120, zq123, zq480, zq492, zq700, zq729, zq2187, zq2916, zq8748, ne_eq, Int.reduceEq, Int.reduceLT, Int.reduceLE, Int.reduceToNat, Int.reduceMul, Int.reduceAdd, Int.reduceNeg, gk91 hg, gr91_5 hg, gr91_22 hg, gr91_23 hg, gr91_24 hg, gr91_25 hg, gr91_26 hg, gr91_27 hg, gr91_28 hg, gr91_29 hg, gr91_32 hg, gr91_33 hg, gr91_34 hg, gr91_35 hg, gr91_36 hg, gr91_37 hg, gr91_38 hg, gr91_39 hg, gr91_40 hg, gr91_41 hg, gr91_42 hg, gr91_44 hg, gr91_45 hg, gr91_46 hg, gr91_48 hg, gr91_49 hg, gr91_50 hg, gr91_51 hg, gr91_52 hg, or_true, true_or, if_true, if_false, false_and, and_false, false_or, or_false, hu, e9, c, ra, co, cn, q2]
        exact K 1 (Or.inl ⟨rfl, b, by omega, q⟩)
      · have q2 : ((aOld T (aAct ac (nB T) a b) : Nat) : Int) ≤ ((aNw T (aAct ac (nB T) a b) : Nat) : Int) := by omega
        simp only [e206_0, e206_1, e206_3, e206_4, e206_7, e206_10, e206_13, e206_14, e206_15, e206_16, e206_17, e206_20, e206_23, e206_24, e206_25, e206_26, e206_27, e206_30, e206_33, e206_36, e206_37, e206_38, e206_41, e206_44, e206_45, zs0, zsI, zsL, zsR, ztl1, ztl0, zc0, zcI, zcL, zcR, true_and, and_true, true_implies, false_implies, implies_true, not_true_eq_false, not_false_eq_true, and_self, Int.toNat_natCast, Nat.reduceAdd, Nat.reduceLeDiff, Nat.reduceLT, forall_eq', Option.some.injEq, zarR, zarI, zarL, zle, zq0, zq1, zq2, zq3, zq4, zq5, zq6, zq8, zq9, zq10, zq20, zq7, zq12, zq24, zq40, zq41, zq48, zq100, zq120, zq123, zq480, zq492, zq700, zq729, zq2187, zq2916, zq8748, ne_eq, Int.reduceEq, Int.reduceLT, Int.reduceLE, Int.reduceToNat, Int.reduceMul, Int.reduceAdd, Int.reduceNeg, gk91 hg, gr91_5 hg, gr91_22 hg, gr91_23 hg, gr91_24 hg, gr91_25 hg, gr91_26 hg, gr91_27 hg, gr91_28 hg, gr91_29 hg, gr91_32 hg, gr91_33 hg, gr91_34 hg, gr91_35 hg, gr91_36 hg, gr91_37 hg, gr91_38 hg, gr91_39 hg, gr91_40 hg, gr91_41 hg, gr91_42 hg, gr91_44 hg, gr91_45 hg, gr91_46 hg, gr91_48 hg, gr91_49 hg, gr91_50 hg, gr91_51 hg, gr91_52 hg, or_true, true_or, if_true, if_false, false_and, and_false, false_or, or_false, hu, e9, c, ra, co, cn, q2, wr_s (show b < 2147483647 by omega)]
        apply ih (b + 1) (by omega)
        intro i hi
        by_cases z : i = b
        · rw [z]; exact q
        · exact m i (by omega)
  simp only [e206_0, e206_1, e206_3, e206_4, e206_7, e206_10, e206_13, e206_14, e206_15, e206_16, e206_17, e206_20, e206_23, e206_24, e206_25, e206_26, e206_27, e206_30, e206_33, e206_36, e206_37, e206_38, e206_41, e206_44, e206_45, zs0, zsI, zsL, zsR, ztl1, ztl0, zc0, zcI, zcL, zcR, true_and, and_true, true_implies, false_implies, implies_true, not_true_eq_false, not_false_eq_true, and_self, Int.toNat_natCast, Nat.reduceAdd, Nat.reduceLeDiff, Nat.reduceLT, forall_eq', Option.some.injEq, zarR, zarI, zarL, zle, zq0, zq1, zq2, zq3, zq4, zq5, zq6, zq8, zq9, zq10, zq20, zq7, zq12, zq24, zq40, zq41, zq48, zq100, zq120, zq123, zq480, zq492, zq700, zq729, zq2187, zq2916, zq8748, ne_eq, Int.reduceEq, Int.reduceLT, Int.reduceLE, Int.reduceToNat, Int.reduceMul, Int.reduceAdd, Int.reduceNeg]
  have l0 := lp (nB T) 0 (by omega) (fun i hi => by omega)
  simp only [zq0] at l0
  exact l0
end ED
