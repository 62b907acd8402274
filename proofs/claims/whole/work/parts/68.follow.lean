/-! what is paid, and who leaves, at rest -/
section FW
variable (T : aTn) (ac : Nat → Nat) (nn nf : Nat → Int)
def fP : Nat → (Nat → Nat → Int) → Nat → Int
  | 0, _, _ => 0
  | y + 1, hd, s => aPaid (aOwn T ac (calm ac (nB T) (rW T ac nn nf (y + 1) hd))) (aOth T ac (calm ac (nB T) (rW T ac nn nf (y + 1) hd))) (aN hd nn nf) (aTo T (aOwn T ac (calm ac (nB T) (rW T ac nn nf (y + 1) hd))) (aOth T ac (calm ac (nB T) (rW T ac nn nf (y + 1) hd)))) s 5 + fP y (nx T ac nn nf hd (calm ac (nB T) (rW T ac nn nf (y + 1) hd))) s
def fL : Nat → (Nat → Nat → Int) → Nat → Int
  | 0, _, _ => 0
  | y + 1, hd, s => aLeft (aN hd nn nf) (aTo T (aOwn T ac (calm ac (nB T) (rW T ac nn nf (y + 1) hd))) (aOth T ac (calm ac (nB T) (rW T ac nn nf (y + 1) hd)))) s 5 + fL y (nx T ac nn nf hd (calm ac (nB T) (rW T ac nn nf (y + 1) hd))) s
end FW
section FO
variable {d : Nat} {Q : zQ} {G : zG} {h : zM} {T : aTn} {ac : Nat → Nat} {nn nf : Nat → Int} {u n : Nat}
theorem c_follow (hg : gS G) (hw : wT T) (hc : acOk T ac) (hf : fB nn nf) (h1 : 1 ≤ n) (h3 : n ≤ 3) (hN : n * (tg ac (nB T) * nB T) ≤ 2187) {hd : Nat → Nat → Int} {B : Int} (b1 : hB hd B) (b2 : -100 ≤ B) (b3 : B + 100 * n ≤ 2000000 - 300) (h20 : nB T = 2 → ∀ s, hd s 2 = 0) (hs : sg T n hd nn nf ac h) (K : ∀ h' : zM, (∀ c i, c < 46 ∨ 86 < c → h' c i = h c i) → (∀ s, s < nS T → h' 85 s = fP T ac nn nf n hd s) → (∀ s, s < nS T → h' 86 s = fL T ac nn nf n hd s) → Q none G h') : zRunD ztb zmt' (d + 9) 43 [zR (some 46), zI n] G h Q := by
  rw [r43]
  have hb3 := hw.1
  have hs4 := hw.2.1
  have t1 := tg_b hw hc
  have lp : ∀ y (h1' : zM) (hd : Nat → Nat → Int) (B : Int) (P L : Nat → Int) (l3 l4 : Option zV), y ≤ n → hB hd B → -100 ≤ B → B + 100 * y ≤ 2000000 - 300 → (nB T = 2 → ∀ s, hd s 2 = 0) → sPre T ac nn nf y hd h1' → (∀ c i, c < 46 ∨ 86 < c → h1' c i = h c i) → (∀ s, s < nS T → h1' 85 s = P s ∧ 0 ≤ P s ∧ P s ≤ 10000000000 * (3 - (y : Int))) → (∀ s, s < nS T → h1' 86 s = L s ∧ 0 ≤ L s ∧ L s ≤ 10000000000 * (3 - (y : Int))) → (∀ h' : zM, (∀ c i, c < 46 ∨ 86 < c → h' c i = h c i) → (∀ s, s < nS T → h' 85 s = P s + fP T ac nn nf y hd s) → (∀ s, s < nS T → h' 86 s = L s + fL T ac nn nf y hd s) → Q none G h') → zE 43 (d + 8) Q 27 [some (zR (some 46)), some (zI n), some (zI y), l3, l4] [] G h1' (0, 0) := by
    intro y
    induction y with
    | zero =>
      intro h1' hd B P L l3 l4 _ _ _ _ _ _ f mP mL KK
      rw [e43_27]
      simp only [e43_0, e43_1, e43_2, e43_5, e43_6, e43_9, e43_10, e43_13, e43_14, e43_17, e43_18, e43_21, e43_22, e43_23, e43_26, e43_28, e43_29, e43_32, e43_33, e43_34, e43_37, e43_38, e43_39, e43_40, e43_43, e43_44, e43_47, e43_48, e43_51, e43_52, e43_53, e43_54, e43_55, e43_58, e43_59, e43_60, e43_61, e43_64, e43_65, e43_69, e43_70, e43_73, e43_76, e43_79, e43_80, e43_83, e43_85, e43_86, e43_87, e43_88, e43_91, e43_94, e43_96, e43_97, e43_98, e43_99, e43_100, e43_103, e43_105, e43_106, e43_107, e43_108, e43_111, e43_114, e43_116, e43_117, e43_118, e43_119, e43_120, e43_123, e43_126, e43_127, e43_130, e43_133, e43_134, e43_135, e43_138, e43_139, e43_140, e43_141, e43_142, e43_143, e43_145, e43_148, e43_151, e43_154, zs0, zsI, zsL, zsR, ztl1, ztl0, zc0, zcI, zcL, zcR, true_and, and_true, true_implies, false_implies, implies_true, not_true_eq_false, not_false_eq_true, and_self, Int.toNat_natCast, Nat.reduceAdd, Nat.reduceLeDiff, Nat.reduceLT, forall_eq', Option.some.injEq, zarR, zarI, zarL, zle, zq0, zq1, zq2, zq3, zq4, zq5, zq6, zq8, zq9, zq10, zq20, zq7, zq12, zq24, zq40, zq41, zq48, zq100, zq120, zq123, zq480, zq492, zq700, zq729, zq2187, zq2916, zq8748, ne_eq, Int.reduceEq, Int.reduceLT, Int.reduceLE, Int.reduceToNat, Int.reduceMul, Int.reduceAdd, Int.reduceNeg, or_true, true_or, if_true, if_false, false_and, and_false, false_or, or_false]
      apply KK h1' f
      · intro s q
        rw [(mP s q).1, fP, Int.add_zero]
      · intro s q
        rw [(mL s q).1, fL, Int.add_zero]
    | succ y ih =>
      intro h1' hd B P L l3 l4 hy c1 c2 c3 c4 hP f mP mL KK
      have cc : ¬ ((y + 1 : Nat) : Int) < 1 := by omega
      rw [e43_27]
      simp only [e43_28, e43_29, e43_32, e43_33, e43_34, zs0, zsI, zsL, zsR, ztl1, ztl0, zc0, zcI, zcL, zcR, true_and, and_true, true_implies, false_implies, implies_true, not_true_eq_false, not_false_eq_true, and_self, Int.toNat_natCast, Nat.reduceAdd, Nat.reduceLeDiff, Nat.reduceLT, forall_eq', Option.some.injEq, zarR, zarI, zarL, zle, zq0, zq1, zq2, zq3, zq4, zq5, zq6, zq8, zq9, zq10, zq20, zq7, zq12, zq24, zq40, zq41, zq48, zq100, zq120, zq123, zq480, zq492, zq700, zq729, zq2187, zq2916, zq8748, ne_eq, Int.reduceEq, Int.reduceLT, Int.reduceLE, Int.reduceToNat, Int.reduceMul, Int.reduceAdd, Int.reduceNeg, gk46 hg, gr46_0 hg, gr46_1 hg, gr46_2 hg, gr46_3 hg, gr46_4 hg, gr46_6 hg, gr46_7 hg, gr46_8 hg, gr46_9 hg, gr46_10 hg, gr46_11 hg, gr46_12 hg, gr46_13 hg, cc]
      have hN2 : (y + 1) * (tg ac (nB T) * nB T) ≤ 2187 := Nat.le_trans (Nat.mul_le_mul_right _ hy) hN
      apply c_set (d := d) (y := y + 1) hg hw hc hf (by omega) (by omega) hN2 c1 c2 (by omega) c4 hP
      intro h2 hp
      obtain ⟨a, ha⟩ : ∃ a : Nat, a = calm ac (nB T) (rW T ac nn nf (y + 1) hd) := ⟨_, rfl⟩
      have cb := calm_b (ac := ac) (nb := nB T) (w := rW T ac nn nf (y + 1) hd) (by omega)
      rw [← ha] at cb ⊢
      have fs := hp.1
      have kt2 : kT h2 49 T := kT_frame hP.1 (fun c i q1 q2 => fs c i (by omega) (by omega) (by omega) (by omega) (by omega) (by omega) (by omega) (by omega))
      have hO2 : tOk h2 T ac := tOk_fr hP.2.1 (fun i => fs _ _ (by omega) (by omega) (by omega) (by omega) (by omega) (by omega) (by omega) (by omega)) (fun i => fs _ _ (by omega) (by omega) (by omega) (by omega) (by omega) (by omega) (by omega) (by omega)) (fun i => fs _ _ (by omega) (by omega) (by omega) (by omega) (by omega) (by omega) (by omega) (by omega)) (fun i => fs _ _ (by omega) (by omega) (by omega) (by omega) (by omega) (by omega) (by omega) (by omega)) (fs _ _ (by omega) (by omega) (by omega) (by omega) (by omega) (by omega) (by omega) (by omega))
      simp only [e43_37, e43_38, e43_39, e43_40, zs0, zsI, zsL, zsR, ztl1, ztl0, zc0, zcI, zcL, zcR, true_and, and_true, true_implies, false_implies, implies_true, not_true_eq_false, not_false_eq_true, and_self, Int.toNat_natCast, Nat.reduceAdd, Nat.reduceLeDiff, Nat.reduceLT, forall_eq', Option.some.injEq, zarR, zarI, zarL, zle, zq0, zq1, zq2, zq3, zq4, zq5, zq6, zq8, zq9, zq10, zq20, zq7, zq12, zq24, zq40, zq41, zq48, zq100, zq120, zq123, zq480, zq492, zq700, zq729, zq2187, zq2916, zq8748, ne_eq, Int.reduceEq, Int.reduceLT, Int.reduceLE, Int.reduceToNat, Int.reduceMul, Int.reduceAdd, Int.reduceNeg, gk46 hg, gr46_0 hg, gr46_1 hg, gr46_2 hg, gr46_3 hg, gr46_4 hg, gr46_6 hg, gr46_7 hg, gr46_8 hg, gr46_9 hg, gr46_10 hg, gr46_11 hg, gr46_12 hg, gr46_13 hg]
      apply c_askAll (d := d + 6) hg kt2 hw hc hO2.1 (all := a) (by omega)
      intro h4 f4 o4 n4
      have kt4 : kT h4 49 T := kT_frame kt2 (fun c i q1 q2 => f4 c i (by omega) (by omega))
      have hO4 : tOk h4 T ac := tOk_fr hO2 (fun i => f4 _ _ (by omega) (by omega)) (fun i => f4 _ _ (by omega) (by omega)) (fun i => f4 _ _ (by omega) (by omega)) (fun i => f4 _ _ (by omega) (by omega)) (f4 _ _ (by omega) (by omega))
      have g7 := g75 hg (y := y + 1) (by omega)
      have y4 : ((y + 1 : Nat) : Int) < 4 := by omega
      have wa : wr ((a : Int) * 4) = ((a * 4 : Nat) : Int) := wrN (by omega) (by omega)
      have nok := aN_ok c1 hf (by omega)
      have bo := aOwn_b hw ac a
      have bn := aOth_b hw ac a
      have fa : ∀ c i, ¬ c = 59 → ¬ c = 60 → c < 64 ∨ 68 < c → ¬ (c = 46 ∧ i = 14) → ¬ c = 73 → ¬ c = 74 → c < 76 ∨ 76 + (y + 1) ≤ c → c < 82 ∨ 81 + (y + 1) < c → h4 c i = h1' c i := fun c i q1 q2 q3 q4 q5 q6 q7 q8 => by rw [f4 c i q1 q2, fs c i q1 q2 q3 q4 (by omega) (by omega) q7 q8]
      simp only [e43_43, e43_44, e43_47, e43_48, e43_51, e43_52, e43_53, e43_54, e43_55, e43_58, e43_59, e43_60, e43_61, zs0, zsI, zsL, zsR, ztl1, ztl0, zc0, zcI, zcL, zcR, true_and, and_true, true_implies, false_implies, implies_true, not_true_eq_false, not_false_eq_true, and_self, Int.toNat_natCast, Nat.reduceAdd, Nat.reduceLeDiff, Nat.reduceLT, forall_eq', Option.some.injEq, zarR, zarI, zarL, zle, zq0, zq1, zq2, zq3, zq4, zq5, zq6, zq8, zq9, zq10, zq20, zq7, zq12, zq24, zq40, zq41, zq48, zq100, zq120, zq123, zq480, zq492, zq700, zq729, zq2187, zq2916, zq8748, ne_eq, Int.reduceEq, Int.reduceLT, Int.reduceLE, Int.reduceToNat, Int.reduceMul, Int.reduceAdd, Int.reduceNeg, gk46 hg, gr46_0 hg, gr46_1 hg, gr46_2 hg, gr46_3 hg, gr46_4 hg, gr46_6 hg, gr46_7 hg, gr46_8 hg, gr46_9 hg, gr46_10 hg, gr46_11 hg, gr46_12 hg, gr46_13 hg, gk47 hg, gr47_0 hg, gr47_1 hg, gr47_2 hg, gr47_3 hg, gr47_4 hg, gr47_5 hg, gr47_6 hg, gr47_7 hg, gr47_8 hg, gk75 hg, gl75 hg, gr75_0 hg, gr75_1 hg, gr75_2 hg, gr75_3 hg, y4, g7.1, wa]
      rw [show (0 : Int) = ((0 : Nat) : Int) from rfl]
      apply c_pass47 (d := d + 6) (n := aN hd nn nf) (to := aTo T (aOwn T ac a) (aOth T ac a)) (own := aOwn T ac a) (oth := aOth T ac a) hg kt4 hw o4 n4 bo bn nok g7.2.1 (by rw [g7.2.2]; decide) (by omega) (by omega) (gk71 hg) (by rw [gl71 hg]; omega) (by omega) (by omega)
      · intro s k q1 q2
        rw [Nat.zero_add, fa _ _ (by omega) (by omega) (by omega) (by omega) (by omega) (by omega) (by omega) (by omega), hP.2.2.1 s k q1 q2]
        unfold aN
        rw [if_pos q2]
      · intro s q
        rw [fa _ _ (by omega) (by omega) (by omega) (by omega) (by omega) (by omega) (by omega) (by omega), hP.2.2.2.1 s q]
        rfl
      · intro s q
        rw [fa _ _ (by omega) (by omega) (by omega) (by omega) (by omega) (by omega) (by omega) (by omega), hP.2.2.2.2.1 s q]
        rfl
      · intro s k q1 q2 q3
        rw [hO4.2.2.1 a s cb q1]
        apply aPk_to hw
        by_cases q4 : k = 2 ∧ nB T = 2
        · have q5 : aN hd nn nf s 2 = hd s 2 := rfl
          rw [q4.1, q5, c4 q4.2 s] at q3
          omega
        · omega
      · intro s k q1 q2 q3
        by_cases q4 : k = 2 ∧ nB T = 2
        · have q5 : aN hd nn nf s 2 = hd s 2 := rfl
          rw [q4.1, q5, c4 q4.2 s] at q3
          omega
        · have e2 := aCh_b hw (own := aOwn T ac a) (oth := aOth T ac a) (s := s) (far := 0) (f := 3) (Or.inl rfl)
          have e4 := aCh_b hw (own := aOwn T ac a) (oth := aOth T ac a) (s := s) (far := 1) (f := 3) (Or.inl rfl)
          unfold aTo
          split
          · have e1 := aCh_b hw (own := aOwn T ac a) (oth := aOth T ac a) (s := s) (far := tr T 7 s) (f := k) (Or.inr (by omega))
            omega
          · split <;> omega
      · intro h5 g0 g1 g2 g3 g4
        have kt5 : kT h5 49 T := kT_frame kt4 (fun c i q1 q2 => g0 c i (by omega))
        have hO5 : tOk h5 T ac := tOk_fr hO4 (fun i => g0 _ _ (by omega)) (fun i => g0 _ _ (by omega)) (fun i => g0 _ _ (by omega)) (fun i => g0 _ _ (by omega)) (g0 _ _ (by omega))
        have pb : ∀ s, 0 ≤ aPaid (aOwn T ac a) (aOth T ac a) (aN hd nn nf) (aTo T (aOwn T ac a) (aOth T ac a)) s 5 ∧ aPaid (aOwn T ac a) (aOth T ac a) (aN hd nn nf) (aTo T (aOwn T ac a) (aOth T ac a)) s 5 ≤ 10000000000 := fun s => by
          have := aPaid_b (to := aTo T (aOwn T ac a) (aOth T ac a)) nok bo bn s 5 (by omega)
          omega
        have lb : ∀ s, 0 ≤ aLeft (aN hd nn nf) (aTo T (aOwn T ac a) (aOth T ac a)) s 5 ∧ aLeft (aN hd nn nf) (aTo T (aOwn T ac a) (aOth T ac a)) s 5 ≤ 10000000000 := fun s => by
          have := aLeft_b (to := aTo T (aOwn T ac a) (aOth T ac a)) nok s 5 (by omega)
          omega
        have sm : ∀ j s (h6 : zM), s + j = nS T → (∀ c i, ¬ (c = 85 ∧ i < s) → ¬ (c = 86 ∧ i < s) → h6 c i = h5 c i) → (∀ i, i < s → h6 85 i = P i + aPaid (aOwn T ac a) (aOth T ac a) (aN hd nn nf) (aTo T (aOwn T ac a) (aOth T ac a)) i 5) → (∀ i, i < s → h6 86 i = L i + aLeft (aN hd nn nf) (aTo T (aOwn T ac a) (aOth T ac a)) i 5) → zE 43 (d + 8) Q 67 [some (zR (some 46)), some (zI n), some (zI ((y + 1 : Nat) : Int)), some (zI (a : Int)), some (zI s)] [] G h6 (0, 0) := by
          intro j
          induction j with
          | zero =>
            intro s h6 hj f6 m1 m2
            have hj' : s = nS T := by omega
            subst hj'
            have e10 : h6 49 10 = (nS T : Int) := by rw [f6 _ _ (by omega) (by omega)]; exact kt5.2.1
            have g7' := g75 hg (y := y) (by omega)
            have y4' : ((y : Nat) : Int) < 4 := by omega
            have w1 : wr (((y + 1 : Nat) : Int) - 1) = (y : Int) := wrN (by omega) (by omega)
            have w2 : wr (((y + 1 : Nat) : Int) + (-1)) = (y : Int) := wrN (by omega) (by omega)
            rw [e43_67]
            simp only [e43_0, e43_1, e43_2, e43_5, e43_6, e43_9, e43_10, e43_13, e43_14, e43_17, e43_18, e43_21, e43_22, e43_23, e43_26, e43_28, e43_29, e43_32, e43_33, e43_34, e43_37, e43_38, e43_39, e43_40, e43_43, e43_44, e43_47, e43_48, e43_51, e43_52, e43_53, e43_54, e43_55, e43_58, e43_59, e43_60, e43_61, e43_64, e43_65, e43_69, e43_70, e43_73, e43_76, e43_79, e43_80, e43_83, e43_85, e43_86, e43_87, e43_88, e43_91, e43_94, e43_96, e43_97, e43_98, e43_99, e43_100, e43_103, e43_105, e43_106, e43_107, e43_108, e43_111, e43_114, e43_116, e43_117, e43_118, e43_119, e43_120, e43_123, e43_126, e43_127, e43_130, e43_133, e43_134, e43_135, e43_138, e43_139, e43_140, e43_141, e43_142, e43_143, e43_145, e43_148, e43_151, e43_154, zs0, zsI, zsL, zsR, ztl1, ztl0, zc0, zcI, zcL, zcR, true_and, and_true, true_implies, false_implies, implies_true, not_true_eq_false, not_false_eq_true, and_self, Int.toNat_natCast, Nat.reduceAdd, Nat.reduceLeDiff, Nat.reduceLT, forall_eq', Option.some.injEq, zarR, zarI, zarL, zle, zq0, zq1, zq2, zq3, zq4, zq5, zq6, zq8, zq9, zq10, zq20, zq7, zq12, zq24, zq40, zq41, zq48, zq100, zq120, zq123, zq480, zq492, zq700, zq729, zq2187, zq2916, zq8748, ne_eq, Int.reduceEq, Int.reduceLT, Int.reduceLE, Int.reduceToNat, Int.reduceMul, Int.reduceAdd, Int.reduceNeg, gk46 hg, gr46_0 hg, gr46_1 hg, gr46_2 hg, gr46_3 hg, gr46_4 hg, gr46_6 hg, gr46_7 hg, gr46_8 hg, gr46_9 hg, gr46_10 hg, gr46_11 hg, gr46_12 hg, gr46_13 hg, gk47 hg, gr47_0 hg, gr47_1 hg, gr47_2 hg, gr47_3 hg, gr47_4 hg, gr47_5 hg, gr47_6 hg, gr47_7 hg, gr47_8 hg, gk49 hg, gr49_0 hg, gr49_1 hg, gr49_2 hg, gr49_3 hg, gr49_4 hg, gr49_5 hg, gr49_6 hg, gr49_7 hg, gr49_8 hg, gk68 hg, gl68 hg, gk75 hg, gl75 hg, gr75_0 hg, gr75_1 hg, gr75_2 hg, gr75_3 hg, or_true, true_or, if_true, if_false, false_and, and_false, false_or, or_false, e10, Int.le_refl, w1, w2, y4', g7'.1, g7'.2.1, g7'.2.2]
            have fb : ∀ c i, ¬ c = 59 → ¬ c = 60 → c < 64 ∨ 68 < c → ¬ (c = 46 ∧ i = 14) → ¬ c = 73 → ¬ c = 74 → c < 76 ∨ 76 + (y + 1) ≤ c → c < 82 ∨ 81 + (y + 1) < c → ¬ c = 85 → ¬ c = 86 → h6 c i = h1' c i := fun c i q1 q2 q3 q4 q5 q6 q7 q8 q9 q10 => by rw [f6 c i (by omega) (by omega), g0 c i (by omega), fa c i q1 q2 q3 q4 q5 q6 q7 q8]
            apply ih (zcp h6 68 0 (76 + y) 0 12) (nx T ac nn nf hd a) (B + 100) (fun s => P s + aPaid (aOwn T ac a) (aOth T ac a) (aN hd nn nf) (aTo T (aOwn T ac a) (aOth T ac a)) s 5) (fun s => L s + aLeft (aN hd nn nf) (aTo T (aOwn T ac a) (aOth T ac a)) s 5) _ _ (by omega) (nx_b hw c1 hf (by omega) c2 a) (by omega) (by omega) (fun q s => nx_0 hw q (c4 q) a s)
            · refine ⟨kT_frame kt5 (fun c i q1 q2 => by rw [zcp_c (by omega), f6 c i (by omega) (by omega)]), tOk_fr hO5 (fun i => by rw [zcp_c (by omega), f6 _ _ (by omega) (by omega)]) (fun i => by rw [zcp_c (by omega), f6 _ _ (by omega) (by omega)]) (fun i => by rw [zcp_c (by omega), f6 _ _ (by omega) (by omega)]) (fun i => by rw [zcp_c (by omega), f6 _ _ (by omega) (by omega)]) (by rw [zcp_c (by omega), f6 _ _ (by omega) (by omega)]), ?_, ?_, ?_, ?_⟩
              · intro s b q1 q2
                have q := zcp_i (h := h6) (a := 68) (sp := 0) (b := 76 + y) (dp := 0) (n := 12) (i := b * 4 + s) (by omega)
                rw [Nat.zero_add] at q
                rw [q, f6 _ _ (by omega) (by omega), g4 b s q2 q1]
                unfold nx
                rw [if_pos q1]
              · intro s q
                rw [zcp_c (by omega), fb _ _ (by omega) (by omega) (by omega) (by omega) (by omega) (by omega) (by omega) (by omega) (by omega) (by omega)]
                exact hP.2.2.2.1 s q
              · intro s q
                rw [zcp_c (by omega), fb _ _ (by omega) (by omega) (by omega) (by omega) (by omega) (by omega) (by omega) (by omega) (by omega) (by omega)]
                exact hP.2.2.2.2.1 s q
              · rw [zcp_c (by omega), f6 _ _ (by omega) (by omega), g0 _ _ (by omega), f4 _ _ (by omega) (by omega)]
                exact hp.2.2.1
            · intro c i q
              rw [zcp_c (by omega), fb c i (by omega) (by omega) (by omega) (by omega) (by omega) (by omega) (by omega) (by omega) (by omega) (by omega)]
              exact f c i q
            · intro s q
              have p1 := pb s
              have p2 := mP s q
              rw [zcp_c (by omega), m1 s q]
              refine ⟨rfl, by omega, by omega⟩
            · intro s q
              have p1 := lb s
              have p2 := mL s q
              rw [zcp_c (by omega), m2 s q]
              refine ⟨rfl, by omega, by omega⟩
            · intro h' k0 k1 k2
              apply KK h' k0
              · intro s q
                rw [k1 s q, fP, ← ha, Int.add_assoc]
              · intro s q
                rw [k2 s q, fL, ← ha, Int.add_assoc]
          | succ j ihj =>
            intro s h6 hj f6 m1 m2
            have e10 : h6 49 10 = (nS T : Int) := by rw [f6 _ _ (by omega) (by omega)]; exact kt5.2.1
            have c : ¬ (nS T : Int) ≤ s := by omega
            have s4 : (s : Int) < 4 := by omega
            have e85 : h6 85 s = P s := by rw [f6 _ _ (by omega) (by omega), g0 _ _ (by omega), fa _ _ (by omega) (by omega) (by omega) (by omega) (by omega) (by omega) (by omega) (by omega)]; exact (mP s (by omega)).1
            have e86 : h6 86 s = L s := by rw [f6 _ _ (by omega) (by omega), g0 _ _ (by omega), fa _ _ (by omega) (by omega) (by omega) (by omega) (by omega) (by omega) (by omega) (by omega)]; exact (mL s (by omega)).1
            have e66 : h6 66 s = aPaid (aOwn T ac a) (aOth T ac a) (aN hd nn nf) (aTo T (aOwn T ac a) (aOth T ac a)) s 5 := by rw [f6 _ _ (by omega) (by omega)]; exact g2 s (by omega)
            have e67 : h6 67 s = aLeft (aN hd nn nf) (aTo T (aOwn T ac a) (aOth T ac a)) s 5 := by rw [f6 _ _ (by omega) (by omega)]; exact g1 s (by omega)
            have p1 := pb s
            have p2 := mP s (by omega)
            have p3 := lb s
            have p4 := mL s (by omega)
            have w1 : wl (P s + aPaid (aOwn T ac a) (aOth T ac a) (aN hd nn nf) (aTo T (aOwn T ac a) (aOth T ac a)) s 5) = P s + aPaid (aOwn T ac a) (aOth T ac a) (aN hd nn nf) (aTo T (aOwn T ac a) (aOth T ac a)) s 5 := wl_id (by omega)
            have w2 : wl (L s + aLeft (aN hd nn nf) (aTo T (aOwn T ac a) (aOth T ac a)) s 5) = L s + aLeft (aN hd nn nf) (aTo T (aOwn T ac a) (aOth T ac a)) s 5 := wl_id (by omega)
            clear p1 p2 p3 p4
            rw [e43_67]
            simp only [e43_0, e43_1, e43_2, e43_5, e43_6, e43_9, e43_10, e43_13, e43_14, e43_17, e43_18, e43_21, e43_22, e43_23, e43_26, e43_28, e43_29, e43_32, e43_33, e43_34, e43_37, e43_38, e43_39, e43_40, e43_43, e43_44, e43_47, e43_48, e43_51, e43_52, e43_53, e43_54, e43_55, e43_58, e43_59, e43_60, e43_61, e43_64, e43_65, e43_69, e43_70, e43_73, e43_76, e43_79, e43_80, e43_83, e43_85, e43_86, e43_87, e43_88, e43_91, e43_94, e43_96, e43_97, e43_98, e43_99, e43_100, e43_103, e43_105, e43_106, e43_107, e43_108, e43_111, e43_114, e43_116, e43_117, e43_118, e43_119, e43_120, e43_123, e43_126, e43_127, e43_130, e43_133, e43_134, e43_135, e43_138, e43_139, e43_140, e43_141, e43_142, e43_143, e43_145, e43_148, e43_151, e43_154, zs0, zsI, zsL, zsR, ztl1, ztl0, zc0, zcI, zcL, zcR, true_and, and_true, true_implies, false_implies, implies_true, not_true_eq_false, not_false_eq_true, and_self, Int.toNat_natCast, Nat.reduceAdd, Nat.reduceLeDiff, Nat.reduceLT, forall_eq', Option.some.injEq, zarR, zarI, zarL, zle, zq0, zq1, zq2, zq3, zq4, zq5, zq6, zq8, zq9, zq10, zq20, zq7, zq12, zq24, zq40, zq41, zq48, zq100, zq120, zq123, zq480, zq492, zq700, zq729, zq2187, zq2916, zq8748, ne_eq, Int.reduceEq, Int.reduceLT, Int.reduceLE, Int.reduceToNat, Int.reduceMul, Int.reduceAdd, Int.reduceNeg, gk46 hg, gr46_0 hg, gr46_1 hg, gr46_2 hg, gr46_3 hg, gr46_4 hg, gr46_6 hg, gr46_7 hg, gr46_8 hg, gr46_9 hg, gr46_10 hg, gr46_11 hg, gr46_12 hg, gr46_13 hg, gk47 hg, gr47_0 hg, gr47_1 hg, gr47_2 hg, gr47_3 hg, gr47_4 hg, gr47_5 hg, gr47_6 hg, gr47_7 hg, gr47_8 hg, gk49 hg, gr49_0 hg, gr49_1 hg, gr49_2 hg, gr49_3 hg, gr49_4 hg, gr49_5 hg, gr49_6 hg, gr49_7 hg, gr49_8 hg, gk85 hg, gl85 hg, gk86 hg, gl86 hg, gk66 hg, gl66 hg, gk67 hg, gl67 hg, or_true, true_or, if_true, if_false, false_and, and_false, false_or, or_false, e10, c, s4, e85, e66, w1, zu_c (show ¬ 86 = 85 by decide), zu_c (show ¬ 67 = 85 by decide), e86, e67, w2, wr_s (show s < 2147483647 by omega)]
            clear w1 w2
            apply ihj (s + 1) _ (by omega)
            · intro c i q1 q2
              rw [zu, if_neg (by omega), zu, if_neg (by omega)]
              exact f6 c i (by omega) (by omega)
            · intro i hi
              rw [zu_c (by decide)]
              by_cases q : i = s
              · subst q; exact zu_at
              · rw [zu_i (by omega)]; exact m1 i (by omega)
            · intro i hi
              by_cases q : i = s
              · subst q; exact zu_at
              · rw [zu_i (by omega), zu_c (by decide)]; exact m2 i (by omega)
        simp only [e43_64, e43_65, zs0, zsI, zsL, zsR, ztl1, ztl0, zc0, zcI, zcL, zcR, true_and, and_true, true_implies, false_implies, implies_true, not_true_eq_false, not_false_eq_true, and_self, Int.toNat_natCast, Nat.reduceAdd, Nat.reduceLeDiff, Nat.reduceLT, forall_eq', Option.some.injEq, zarR, zarI, zarL, zle, zq0, zq1, zq2, zq3, zq4, zq5, zq6, zq8, zq9, zq10, zq20, zq7, zq12, zq24, zq40, zq41, zq48, zq100, zq120, zq123, zq480, zq492, zq700, zq729, zq2187, zq2916, zq8748, ne_eq, Int.reduceEq, Int.reduceLT, Int.reduceLE, Int.reduceToNat, Int.reduceMul, Int.reduceAdd, Int.reduceNeg]
        have l0 := sm (nS T) 0 h5 (by omega) (fun _ _ _ _ => rfl) (fun i hi => by omega) (fun i hi => by omega)
        simp only [zq0] at l0
        exact l0
  simp only [e43_0, e43_1, e43_2, zs0, zsI, zsL, zsR, ztl1, ztl0, zc0, zcI, zcL, zcR, true_and, and_true, true_implies, false_implies, implies_true, not_true_eq_false, not_false_eq_true, and_self, Int.toNat_natCast, Nat.reduceAdd, Nat.reduceLeDiff, Nat.reduceLT, forall_eq', Option.some.injEq, zarR, zarI, zarL, zle, zq0, zq1, zq2, zq3, zq4, zq5, zq6, zq8, zq9, zq10, zq20, zq7, zq12, zq24, zq40, zq41, zq48, zq100, zq120, zq123, zq480, zq492, zq700, zq729, zq2187, zq2916, zq8748, ne_eq, Int.reduceEq, Int.reduceLT, Int.reduceLE, Int.reduceToNat, Int.reduceMul, Int.reduceAdd, Int.reduceNeg, gk46 hg, gr46_0 hg, gr46_1 hg, gr46_2 hg, gr46_3 hg, gr46_4 hg, gr46_6 hg, gr46_7 hg, gr46_8 hg, gr46_9 hg, gr46_10 hg, gr46_11 hg, gr46_12 hg, gr46_13 hg]
  apply c_tab (d := d + 3) hg hs.1 hw hc hs.2.1
  intro h1' f1 hO
  have hP := sg_pre hs f1 hO
  have sf1 := fun h9 Q' => s_fillL (d := d + 7) (Q := Q') (h := h9) (r := 85) (N := 4) (v := 0) (gk85 hg) (gl85 hg) (by decide)
  have sf2 := fun h9 Q' => s_fillL (d := d + 7) (Q := Q') (h := h9) (r := 86) (N := 4) (v := 0) (gk86 hg) (gl86 hg) (by decide)
  have mn : min (n : Int) 3 = (n : Int) := by omega
  simp only [e43_5, e43_6, e43_9, e43_10, e43_13, e43_14, e43_17, e43_18, e43_21, e43_22, e43_23, e43_26, e43_28, e43_29, e43_32, e43_33, e43_34, e43_37, e43_38, e43_39, e43_40, e43_43, e43_44, e43_47, e43_48, e43_51, e43_52, e43_53, e43_54, e43_55, e43_58, e43_59, e43_60, e43_61, e43_64, e43_65, e43_69, e43_70, e43_73, e43_76, e43_79, e43_80, e43_83, e43_85, e43_86, e43_87, e43_88, e43_91, e43_94, e43_96, e43_97, e43_98, e43_99, e43_100, e43_103, e43_105, e43_106, e43_107, e43_108, e43_111, e43_114, e43_116, e43_117, e43_118, e43_119, e43_120, e43_123, e43_126, e43_127, e43_130, e43_133, e43_134, e43_135, e43_138, e43_139, e43_140, e43_141, e43_142, e43_143, e43_145, e43_148, e43_151, e43_154, zs0, zsI, zsL, zsR, ztl1, ztl0, zc0, zcI, zcL, zcR, true_and, and_true, true_implies, false_implies, implies_true, not_true_eq_false, not_false_eq_true, and_self, Int.toNat_natCast, Nat.reduceAdd, Nat.reduceLeDiff, Nat.reduceLT, forall_eq', Option.some.injEq, zarR, zarI, zarL, zle, zq0, zq1, zq2, zq3, zq4, zq5, zq6, zq8, zq9, zq10, zq20, zq7, zq12, zq24, zq40, zq41, zq48, zq100, zq120, zq123, zq480, zq492, zq700, zq729, zq2187, zq2916, zq8748, ne_eq, Int.reduceEq, Int.reduceLT, Int.reduceLE, Int.reduceToNat, Int.reduceMul, Int.reduceAdd, Int.reduceNeg, gk46 hg, gr46_0 hg, gr46_1 hg, gr46_2 hg, gr46_3 hg, gr46_4 hg, gr46_6 hg, gr46_7 hg, gr46_8 hg, gr46_9 hg, gr46_10 hg, gr46_11 hg, gr46_12 hg, gr46_13 hg, sf1, sf2, s_min, mn]
  have fz : ∀ c i, ¬ c = 85 → ¬ c = 86 → (zfl (zfl h1' 85 4 0) 86 4 0) c i = h1' c i := fun c i q1 q2 => by rw [zfl_c q2, zfl_c q1]
  apply lp n _ hd B (fun _ => 0) (fun _ => 0) _ _ (Nat.le_refl _) b1 b2 b3 h20
  · refine ⟨kT_frame hP.1 (fun c i q1 q2 => fz c i (by omega) (by omega)), tOk_fr hP.2.1 (fun i => fz _ _ (by omega) (by omega)) (fun i => fz _ _ (by omega) (by omega)) (fun i => fz _ _ (by omega) (by omega)) (fun i => fz _ _ (by omega) (by omega)) (fz _ _ (by omega) (by omega)), ?_, ?_, ?_, ?_⟩
    · intro s b q1 q2
      rw [fz _ _ (by omega) (by omega)]
      exact hP.2.2.1 s b q1 q2
    · intro s q
      rw [fz _ _ (by omega) (by omega)]
      exact hP.2.2.2.1 s q
    · intro s q
      rw [fz _ _ (by omega) (by omega)]
      exact hP.2.2.2.2.1 s q
    · rw [fz _ _ (by omega) (by omega)]
      exact hP.2.2.2.2.2
  · intro c i q
    rw [fz c i (by omega) (by omega), f1 c i (by omega) (by omega) (by omega) (by omega) (by omega) (by omega) (by omega) (by omega)]
  · intro s q
    rw [zfl_c (by decide), zfl_at (by omega)]
    exact ⟨rfl, Int.le_refl 0, by omega⟩
  · intro s q
    rw [zfl_at (by omega)]
    exact ⟨rfl, Int.le_refl 0, by omega⟩
  · intro h' k0 k1 k2
    apply K h' k0
    · intro s q
      rw [k1 s q, Int.zero_add]
    · intro s q
      rw [k2 s q, Int.zero_add]
end FO
