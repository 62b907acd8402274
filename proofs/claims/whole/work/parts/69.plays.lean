section PY2
variable {d : Nat} {Q : zQ} {G : zG} {h : zM} {T : aTn} {ac : Nat → Nat} {u n : Nat}
theorem m_plays (hg : gS G) (hu : gU G u) (V : rV h u T) (hw : wT T) (h19 : h 91 19 = -1) (h20' : h 91 20 = -1) (h21 : h 91 21 = 0) (h1 : 1 ≤ n) (h3 : n ≤ 3) {hd : Nat → Nat → Int} {B : Int} (b1 : hB hd B) (b2 : -100 ≤ B) (b3 : B + 100 * n ≤ 2000000 - 300) (h20 : nB T = 2 → ∀ s, hd s 2 = 0) (hh : ∀ s b, s < nS T → b < nB T → h 101 (3 * s + b) = hd s b) (K : ∀ h' : zM, (∀ c i, c < 91 ∨ c = 91 ∧ ¬ i = 43 ∨ c = 92 ∨ c = 93 ∨ 100 < c ∧ c < 110 ∨ 114 < c ∧ c < 118 ∨ 119 < c → h' c i = h c i) → (∀ s, s < nS T → h' 118 s = fP T (fun _ => nA T) (nn0 T) (nf0 T) n hd s) → (∀ s, s < nS T → h' 119 s = fL T (fun _ => nA T) (nn0 T) (nf0 T) n hd s) → Q none G h') : zRunD ztb zmt' (d + 13) 194 [zR (some 91), zI n] G h Q := by
  rw [r194]
  have hb3 := hw.1
  have hs4 := hw.2.1
  have u1 := hu.1
  have hc := acOk_all hw
  have hf := fB00 hw
  have t1 := tg_b hw hc
  have lp : ∀ y (h1' : zM) (hd : Nat → Nat → Int) (B : Int) (P L : Nat → Int) (l3 l4 : Option zV), y ≤ n → hB hd B → -100 ≤ B → B + 100 * y ≤ 2000000 - 300 → (nB T = 2 → ∀ s, hd s 2 = 0) → rPre T (fun _ => nA T) (nn0 T) (nf0 T) u y hd h1' → (∀ c i, c < 91 ∨ c = 91 ∧ ¬ i = 43 ∨ c = 92 ∨ c = 93 ∨ 100 < c ∧ c < 110 ∨ 114 < c ∧ c < 118 ∨ 119 < c → h1' c i = h c i) → (∀ s, s < nS T → h1' 118 s = P s ∧ 0 ≤ P s ∧ P s ≤ 10000000000 * (3 - (y : Int))) → (∀ s, s < nS T → h1' 119 s = L s ∧ 0 ≤ L s ∧ L s ≤ 10000000000 * (3 - (y : Int))) → (∀ h' : zM, (∀ c i, c < 91 ∨ c = 91 ∧ ¬ i = 43 ∨ c = 92 ∨ c = 93 ∨ 100 < c ∧ c < 110 ∨ 114 < c ∧ c < 118 ∨ 119 < c → h' c i = h c i) → (∀ s, s < nS T → h' 118 s = P s + fP T (fun _ => nA T) (nn0 T) (nf0 T) y hd s) → (∀ s, s < nS T → h' 119 s = L s + fL T (fun _ => nA T) (nn0 T) (nf0 T) y hd s) → Q none G h') → zE 194 (d + 12) Q 34 [some (zR (some 91)), some (zI n), some (zI y), l3, l4] [] G h1' (0, 0) := by
    intro y
    induction y with
    | zero =>
      intro h1' hd B P L l3 l4 _ _ _ _ _ _ f mP mL KK
      rw [e194_34]
      simp only [e194_0, e194_1, e194_2, e194_5, e194_6, e194_8, e194_9, e194_12, e194_13, e194_16, e194_17, e194_18, e194_19, e194_20, e194_23, e194_24, e194_25, e194_26, e194_29, e194_32, e194_33, e194_35, e194_38, e194_39, e194_40, e194_43, e194_44, e194_45, e194_46, e194_47, e194_50, e194_51, e194_55, e194_56, e194_59, e194_62, e194_65, e194_66, e194_69, e194_71, e194_72, e194_73, e194_74, e194_77, e194_79, e194_80, e194_81, e194_82, e194_83, e194_84, e194_87, e194_89, e194_90, e194_91, e194_92, e194_95, e194_97, e194_98, e194_99, e194_100, e194_101, e194_104, e194_107, e194_110, e194_113, zs0, zsI, zsL, zsR, ztl1, ztl0, zc0, zcI, zcL, zcR, true_and, and_true, true_implies, false_implies, implies_true, not_true_eq_false, not_false_eq_true, and_self, Int.toNat_natCast, Nat.reduceAdd, Nat.reduceLeDiff, Nat.reduceLT, forall_eq', Option.some.injEq, zarR, zarI, zarL, zle, zq0, zq1, zq2, zq3, zq4, zq5, zq6, zq8, zq9, zq10, zq20, zq7, zq12, zq24, zq40, zq41, zq48, zq100, zq120, zq123, zq480, zq492, zq700, zq729, zq2187, zq2916, zq8748, ne_eq, Int.reduceEq, Int.reduceLT, Int.reduceLE, Int.reduceToNat, Int.reduceMul, Int.reduceAdd, Int.reduceNeg, or_true, true_or, if_true, if_false, false_and, and_false, false_or, or_false, Int.le_refl]
      apply KK h1' f
      · intro s q
        rw [(mP s q).1, fP, Int.add_zero]
      · intro s q
        rw [(mL s q).1, fL, Int.add_zero]
    | succ y ih =>
      intro h1' hd B P L l3 l4 hy c1 c2 c3 c4 hP f mP mL KK
      have cc : ¬ ((y + 1 : Nat) : Int) ≤ 0 := by omega
      rw [e194_34]
      simp only [e194_35, e194_38, e194_39, e194_40, zs0, zsI, zsL, zsR, ztl1, ztl0, zc0, zcI, zcL, zcR, true_and, and_true, true_implies, false_implies, implies_true, not_true_eq_false, not_false_eq_true, and_self, Int.toNat_natCast, Nat.reduceAdd, Nat.reduceLeDiff, Nat.reduceLT, forall_eq', Option.some.injEq, zarR, zarI, zarL, zle, zq0, zq1, zq2, zq3, zq4, zq5, zq6, zq8, zq9, zq10, zq20, zq7, zq12, zq24, zq40, zq41, zq48, zq100, zq120, zq123, zq480, zq492, zq700, zq729, zq2187, zq2916, zq8748, ne_eq, Int.reduceEq, Int.reduceLT, Int.reduceLE, Int.reduceToNat, Int.reduceMul, Int.reduceAdd, Int.reduceNeg, gk91 hg, gr91_5 hg, gr91_22 hg, gr91_23 hg, gr91_24 hg, gr91_25 hg, gr91_26 hg, gr91_27 hg, gr91_28 hg, gr91_29 hg, gr91_32 hg, gr91_33 hg, gr91_34 hg, gr91_35 hg, gr91_36 hg, gr91_37 hg, gr91_38 hg, gr91_39 hg, gr91_40 hg, gr91_41 hg, gr91_42 hg, gr91_44 hg, gr91_45 hg, gr91_46 hg, gr91_48 hg, gr91_49 hg, gr91_50 hg, gr91_51 hg, gr91_52 hg, cc]
      apply m_rests (d := d) (y := y + 1) hg hu hw hc hf (by omega) (by omega) c1 c2 (by omega) c4 hP
      intro h2 hp
      obtain ⟨a, ha⟩ : ∃ a : Nat, a = calm (fun _ => nA T) (nB T) (rW T (fun _ => nA T) (nn0 T) (nf0 T) (y + 1) hd) := ⟨_, rfl⟩
      have cb := calm_b (ac := fun _ => nA T) (nb := nB T) (w := rW T (fun _ => nA T) (nn0 T) (nf0 T) (y + 1) hd) (by omega)
      rw [← ha] at cb ⊢
      have o2 := rFr_out hp.1
      obtain ⟨pV, pA, pH, pF, pE, pU⟩ := hP
      have V2 : rV h2 u T := rV_frame pV (fun c i q => o2 c i (by omega)) (fun i => o2 _ _ (by omega)) (fun i _ _ => o2 _ _ (by omega))
      have A2 : rA h2 T (fun _ => nA T) := rA_fr pA (o2 _ _ (by omega)) (o2 _ _ (by omega))
      have F2 : ∀ (h9 : zM), h9 91 19 = h1' 91 19 → (∀ s, s < nS T → h9 100 s = h1' 100 s) → (∀ s, s < nS T → (0 ≤ h9 100 s ∧ h9 100 s ≤ 100) ∧ nf0 T s = (if h9 91 19 = -1 then (if tr T 7 s = 0 then 0 else h9 100 s) else h9 100 s * h9 91 19 / 100) ∧ nn0 T s = h9 100 s - nf0 T s) := fun h9 e1 e2 s q => by
        rw [e1, e2 s q]
        exact pF s q
      have P2 : rPre T (fun _ => nA T) (nn0 T) (nf0 T) u (y + 1) hd h2 := ⟨V2, A2, fun s b q1 q2 => by rw [hp.1 _ _ (by omega) (by omega) (by omega) (by omega) (by omega) (by omega) (by omega)]; exact pH s b q1 q2, F2 h2 (o2 _ _ (by omega)) (fun s _ => o2 _ _ (by omega)), by rw [o2 91 19 (by omega)]; exact pE, hp.2.2.2.1⟩
      simp only [e194_43, e194_44, e194_45, e194_46, e194_47, zs0, zsI, zsL, zsR, ztl1, ztl0, zc0, zcI, zcL, zcR, true_and, and_true, true_implies, false_implies, implies_true, not_true_eq_false, not_false_eq_true, and_self, Int.toNat_natCast, Nat.reduceAdd, Nat.reduceLeDiff, Nat.reduceLT, forall_eq', Option.some.injEq, zarR, zarI, zarL, zle, zq0, zq1, zq2, zq3, zq4, zq5, zq6, zq8, zq9, zq10, zq20, zq7, zq12, zq24, zq40, zq41, zq48, zq100, zq120, zq123, zq480, zq492, zq700, zq729, zq2187, zq2916, zq8748, ne_eq, Int.reduceEq, Int.reduceLT, Int.reduceLE, Int.reduceToNat, Int.reduceMul, Int.reduceAdd, Int.reduceNeg, gk91 hg, gr91_5 hg, gr91_22 hg, gr91_23 hg, gr91_24 hg, gr91_25 hg, gr91_26 hg, gr91_27 hg, gr91_28 hg, gr91_29 hg, gr91_32 hg, gr91_33 hg, gr91_34 hg, gr91_35 hg, gr91_36 hg, gr91_37 hg, gr91_38 hg, gr91_39 hg, gr91_40 hg, gr91_41 hg, gr91_42 hg, gr91_44 hg, gr91_45 hg, gr91_46 hg, gr91_48 hg, gr91_49 hg, gr91_50 hg, gr91_51 hg, gr91_52 hg]
      apply m_year (d := d + 4) hg hu hw hc hf c1 (by omega) c4 P2 (by omega) cb
      intro h5 g0 _ g2 g1 g4
      have V5 : rV h5 u T := rV_frame V2 (fun c i q => g0 c i (by omega) (by omega) (by omega) (by omega)) (fun i => g0 _ _ (by omega) (by omega) (by omega) (by omega)) (fun i _ _ => g0 _ _ (by omega) (by omega) (by omega) (by omega))
      have A5 : rA h5 T (fun _ => nA T) := rA_fr A2 (g0 _ _ (by omega) (by omega) (by omega) (by omega)) (g0 _ _ (by omega) (by omega) (by omega) (by omega))
      have fa : ∀ c i, c < 91 ∨ c = 91 ∧ ¬ i = 43 ∨ c = 92 ∨ c = 93 ∨ 99 < c ∧ c < 110 ∨ 114 < c → h5 c i = h1' c i := fun c i q => by rw [g0 c i (by omega) (by omega) (by omega) (by omega), o2 c i (by omega)]
      have nok := aN_ok c1 hf (by omega)
      have bo := aOwn_b hw (fun _ => nA T) a
      have bn := aOth_b hw (fun _ => nA T) a
      obtain ⟨p, hpd⟩ : ∃ p : Nat → Int, p = fun s => aPaid (aOwn T (fun _ => nA T) a) (aOth T (fun _ => nA T) a) (aN hd (nn0 T) (nf0 T)) (aTo T (aOwn T (fun _ => nA T) a) (aOth T (fun _ => nA T) a)) s 5 := ⟨_, rfl⟩
      obtain ⟨q, hqd⟩ : ∃ q : Nat → Int, q = fun s => aLeft (aN hd (nn0 T) (nf0 T)) (aTo T (aOwn T (fun _ => nA T) a) (aOth T (fun _ => nA T) a)) s 5 := ⟨_, rfl⟩
      have pb : ∀ s, 0 ≤ p s ∧ p s ≤ 10000000000 := fun s => by
        have := aPaid_b (to := aTo T (aOwn T (fun _ => nA T) a) (aOth T (fun _ => nA T) a)) nok bo bn s 5 (by omega)
        rw [hpd]
        dsimp only
        omega
      have lb : ∀ s, 0 ≤ q s ∧ q s ≤ 10000000000 := fun s => by
        have := aLeft_b (to := aTo T (aOwn T (fun _ => nA T) a) (aOth T (fun _ => nA T) a)) nok s 5 (by omega)
        rw [hqd]
        dsimp only
        omega
      have e97 : ∀ s, s < nS T → h5 97 s = p s := fun s hs => by rw [g2 s hs, hpd]
      have e98 : ∀ s, s < nS T → h5 98 s = q s := fun s hs => by rw [g1 s hs, hqd]
      have sm : ∀ j s (h6 : zM), s + j = nS T → (∀ c i, ¬ (c = 118 ∧ i < s) → ¬ (c = 119 ∧ i < s) → h6 c i = h5 c i) → (∀ i, i < s → h6 118 i = P i + p i) → (∀ i, i < s → h6 119 i = L i + q i) → zE 194 (d + 12) Q 53 [some (zR (some 91)), some (zI n), some (zI ((y + 1 : Nat) : Int)), some (zI (a : Int)), some (zI s)] [] G h6 (0, 0) := by
        intro j
        induction j with
        | zero =>
          intro s h6 hj f6 m1 m2
          have hj' : s = nS T := by omega
          subst hj'
          have e10 : h6 u 1 = (nS T : Int) := by rw [f6 _ _ (by omega) (by omega)]; exact V5.2.1
          have w2 : wr (((y + 1 : Nat) : Int) + (-1)) = (y : Int) := wrN (by omega) (by omega)
          rw [e194_53]
          simp only [e194_0, e194_1, e194_2, e194_5, e194_6, e194_8, e194_9, e194_12, e194_13, e194_16, e194_17, e194_18, e194_19, e194_20, e194_23, e194_24, e194_25, e194_26, e194_29, e194_32, e194_33, e194_35, e194_38, e194_39, e194_40, e194_43, e194_44, e194_45, e194_46, e194_47, e194_50, e194_51, e194_55, e194_56, e194_59, e194_62, e194_65, e194_66, e194_69, e194_71, e194_72, e194_73, e194_74, e194_77, e194_79, e194_80, e194_81, e194_82, e194_83, e194_84, e194_87, e194_89, e194_90, e194_91, e194_92, e194_95, e194_97, e194_98, e194_99, e194_100, e194_101, e194_104, e194_107, e194_110, e194_113, zs0, zsI, zsL, zsR, ztl1, ztl0, zc0, zcI, zcL, zcR, true_and, and_true, true_implies, false_implies, implies_true, not_true_eq_false, not_false_eq_true, and_self, Int.toNat_natCast, Nat.reduceAdd, Nat.reduceLeDiff, Nat.reduceLT, forall_eq', Option.some.injEq, zarR, zarI, zarL, zle, zq0, zq1, zq2, zq3, zq4, zq5, zq6, zq8, zq9, zq10, zq20, zq7, zq12, zq24, zq40, zq41, zq48, zq100, zq120, zq123, zq480, zq492, zq700, zq729, zq2187, zq2916, zq8748, ne_eq, Int.reduceEq, Int.reduceLT, Int.reduceLE, Int.reduceToNat, Int.reduceMul, Int.reduceAdd, Int.reduceNeg, gk91 hg, gr91_5 hg, gr91_22 hg, gr91_23 hg, gr91_24 hg, gr91_25 hg, gr91_26 hg, gr91_27 hg, gr91_28 hg, gr91_29 hg, gr91_32 hg, gr91_33 hg, gr91_34 hg, gr91_35 hg, gr91_36 hg, gr91_37 hg, gr91_38 hg, gr91_39 hg, gr91_40 hg, gr91_41 hg, gr91_42 hg, gr91_44 hg, gr91_45 hg, gr91_46 hg, gr91_48 hg, gr91_49 hg, gr91_50 hg, gr91_51 hg, gr91_52 hg, or_true, true_or, if_true, if_false, false_and, and_false, false_or, or_false, hu, e10, Int.le_refl, w2]
          clear w2
          apply ih h6 (nx T (fun _ => nA T) (nn0 T) (nf0 T) hd a) (B + 100) (fun s => P s + p s) (fun s => L s + q s) _ _ (by omega) (nx_b hw c1 hf (by omega) c2 a) (by omega) (by omega) (fun q s => nx_0 hw q (c4 q) a s)
          · refine ⟨rV_frame V5 (fun c i q => f6 c i (by omega) (by omega)) (fun i => f6 _ _ (by omega) (by omega)) (fun i _ _ => f6 _ _ (by omega) (by omega)), rA_fr A5 (f6 _ _ (by omega) (by omega)) (f6 _ _ (by omega) (by omega)), ?_, ?_, ?_, ?_⟩
            · intro s b q1 q2
              rw [f6 _ _ (by omega) (by omega)]
              exact g4 s b q1 (by omega)
            · exact F2 h6 (by rw [f6 _ _ (by omega) (by omega), fa _ _ (by omega)]) (fun s _ => by rw [f6 _ _ (by omega) (by omega), fa _ _ (by omega)])
            · rw [f6 91 19 (by omega) (by omega), fa 91 19 (by omega)]
              exact pE
            · rw [f6 91 43 (by omega) (by omega), g0 91 43 (by omega) (by omega) (by omega) (by omega)]
              exact hp.2.2.2.1
          · intro c i q
            rw [f6 c i (by omega) (by omega), fa c i (by omega)]
            exact f c i q
          · intro s q
            have p1 := pb s
            have p2 := mP s q
            rw [m1 s q]
            refine ⟨rfl, by omega, by omega⟩
          · intro s q
            have p1 := lb s
            have p2 := mL s q
            rw [m2 s q]
            refine ⟨rfl, by omega, by omega⟩
          · intro h' k0 k1 k2
            apply KK h' k0
            · intro s q
              rw [k1 s q, fP, ← ha, hpd, Int.add_assoc]
            · intro s q
              rw [k2 s q, fL, ← ha, hqd, Int.add_assoc]
        | succ j ihj =>
          intro s h6 hj f6 m1 m2
          have e10 : h6 u 1 = (nS T : Int) := by rw [f6 _ _ (by omega) (by omega)]; exact V5.2.1
          have c : ¬ (nS T : Int) ≤ s := by omega
          have s4 : (s : Int) < 4 := by omega
          have e118 : h6 118 s = P s := by rw [f6 _ _ (by omega) (by omega), fa _ _ (by omega)]; exact (mP s (by omega)).1
          have e119 : h6 119 s = L s := by rw [f6 _ _ (by omega) (by omega), fa _ _ (by omega)]; exact (mL s (by omega)).1
          have e97' : h6 97 s = p s := by rw [f6 _ _ (by omega) (by omega)]; exact e97 s (by omega)
          have e98' : h6 98 s = q s := by rw [f6 _ _ (by omega) (by omega)]; exact e98 s (by omega)
          have p1 := pb s
          have p2 := mP s (by omega)
          have p3 := lb s
          have p4 := mL s (by omega)
          have w1 : wl (P s + p s) = P s + p s := wl_id (by omega)
          have w2 : wl (L s + q s) = L s + q s := wl_id (by omega)
          clear p1 p2 p3 p4
          rw [e194_53]
          simp only [e194_0, e194_1, e194_2, e194_5, e194_6, e194_8, e194_9, e194_12, e194_13, e194_16, e194_17, e194_18, e194_19, e194_20, e194_23, e194_24, e194_25, e194_26, e194_29, e194_32, e194_33, e194_35, e194_38, e194_39, e194_40, e194_43, e194_44, e194_45, e194_46, e194_47, e194_50, e194_51, e194_55, e194_56, e194_59, e194_62, e194_65, e194_66, e194_69, e194_71, e194_72, e194_73, e194_74, e194_77, e194_79, e194_80, e194_81, e194_82, e194_83, e194_84, e194_87, e194_89, e194_90, e194_91, e194_92, e194_95, e194_97, e194_98, e194_99, e194_100, e194_101, e194_104, e194_107, e194_110, e194_113, zs0, zsI, zsL, zsR, ztl1, ztl0, zc0, zcI, zcL, zcR, true_and, and_true, true_implies, false_implies, implies_true, not_true_eq_false, not_false_eq_true, and_self, Int.toNat_natCast, Nat.reduceAdd, Nat.reduceLeDiff, Nat.reduceLT, forall_eq', Option.some.injEq, zarR, zarI, zarL, zle, zq0, zq1, zq2, zq3, zq4, zq5, zq6, zq8, zq9, zq10, zq20, zq7, zq12, zq24, zq40, zq41, zq48, zq100, zq120, zq123, zq480, zq492, zq700, zq729, zq2187, zq2916, zq8748, ne_eq, Int.reduceEq, Int.reduceLT, Int.reduceLE, Int.reduceToNat, Int.reduceMul, Int.reduceAdd, Int.reduceNeg, gk91 hg, gr91_5 hg, gr91_22 hg, gr91_23 hg, gr91_24 hg, gr91_25 hg, gr91_26 hg, gr91_27 hg, gr91_28 hg, gr91_29 hg, gr91_32 hg, gr91_33 hg, gr91_34 hg, gr91_35 hg, gr91_36 hg, gr91_37 hg, gr91_38 hg, gr91_39 hg, gr91_40 hg, gr91_41 hg, gr91_42 hg, gr91_44 hg, gr91_45 hg, gr91_46 hg, gr91_48 hg, gr91_49 hg, gr91_50 hg, gr91_51 hg, gr91_52 hg, gk97 hg, gl97 hg, gk98 hg, gl98 hg, gk118 hg, gl118 hg, gk119 hg, gl119 hg, or_true, true_or, if_true, if_false, false_and, and_false, false_or, or_false, hu, e10, c, s4, e118, e97', w1, zu_c (show ¬ 119 = 118 by decide), zu_c (show ¬ 98 = 118 by decide), e119, e98', w2, wr_s (show s < 2147483647 by omega)]
          clear w1 w2
          apply ihj (s + 1) _ (by omega)
          · intro c i q1 q2
            rw [zu, if_neg (by omega), zu, if_neg (by omega)]
            exact f6 c i (by omega) (by omega)
          · intro i hi
            rw [zu_c (by decide)]
            by_cases q : i = s
            · subst q; exact zu_at
            · rw [zu_i (by omega)]; exact m1 i (by omega)
          · intro i hi
            by_cases q : i = s
            · subst q; exact zu_at
            · rw [zu_i (by omega), zu_c (by decide)]; exact m2 i (by omega)
      simp only [e194_50, e194_51, zs0, zsI, zsL, zsR, ztl1, ztl0, zc0, zcI, zcL, zcR, true_and, and_true, true_implies, false_implies, implies_true, not_true_eq_false, not_false_eq_true, and_self, Int.toNat_natCast, Nat.reduceAdd, Nat.reduceLeDiff, Nat.reduceLT, forall_eq', Option.some.injEq, zarR, zarI, zarL, zle, zq0, zq1, zq2, zq3, zq4, zq5, zq6, zq8, zq9, zq10, zq20, zq7, zq12, zq24, zq40, zq41, zq48, zq100, zq120, zq123, zq480, zq492, zq700, zq729, zq2187, zq2916, zq8748, ne_eq, Int.reduceEq, Int.reduceLT, Int.reduceLE, Int.reduceToNat, Int.reduceMul, Int.reduceAdd, Int.reduceNeg]
      have l0 := sm (nS T) 0 h5 (by omega) (fun _ _ _ _ => rfl) (fun i hi => by omega) (fun i hi => by omega)
      simp only [zq0] at l0
      exact l0
  have zl : ∀ j s (h2 : zM), s + j = 4 → (∀ h' : zM, (∀ c i, ¬ c = 118 → ¬ c = 119 → h' c i = h2 c i) → (∀ i, s ≤ i → i < 4 → h' 118 i = 0 ∧ h' 119 i = 0) → (∀ i, i < s → h' 118 i = h2 118 i ∧ h' 119 i = h2 119 i) → zE 194 (d + 12) Q 34 [some (zR (some 91)), some (zI n), some (zI n), none, none] [] G h' (0, 0)) → zE 194 (d + 12) Q 7 [some (zR (some 91)), some (zI n), some (zI s), none, none] [] G h2 (0, 0) := by
    intro j
    induction j with
    | zero =>
      intro s h2 hj KK
      have hj' : s = 4 := by omega
      subst hj'
      rw [e194_7]
      simp only [e194_8, e194_9, e194_12, e194_13, e194_16, e194_17, e194_18, e194_19, e194_20, e194_23, e194_24, e194_25, e194_26, e194_29, e194_32, e194_33, zs0, zsI, zsL, zsR, ztl1, ztl0, zc0, zcI, zcL, zcR, true_and, and_true, true_implies, false_implies, implies_true, not_true_eq_false, not_false_eq_true, and_self, Int.toNat_natCast, Nat.reduceAdd, Nat.reduceLeDiff, Nat.reduceLT, forall_eq', Option.some.injEq, zarR, zarI, zarL, zle, zq0, zq1, zq2, zq3, zq4, zq5, zq6, zq8, zq9, zq10, zq20, zq7, zq12, zq24, zq40, zq41, zq48, zq100, zq120, zq123, zq480, zq492, zq700, zq729, zq2187, zq2916, zq8748, ne_eq, Int.reduceEq, Int.reduceLT, Int.reduceLE, Int.reduceToNat, Int.reduceMul, Int.reduceAdd, Int.reduceNeg, Int.le_refl]
      exact KK h2 (fun _ _ _ _ => rfl) (fun i q1 q2 => by omega) (fun i q => ⟨rfl, rfl⟩)
    | succ j ihj =>
      intro s h2 hj KK
      have c : ¬ (4 : Int) ≤ s := by omega
      have s4 : (s : Int) < 4 := by omega
      rw [e194_7]
      simp only [e194_8, e194_9, e194_12, e194_13, e194_16, e194_17, e194_18, e194_19, e194_20, e194_23, e194_24, e194_25, e194_26, e194_29, zs0, zsI, zsL, zsR, ztl1, ztl0, zc0, zcI, zcL, zcR, true_and, and_true, true_implies, false_implies, implies_true, not_true_eq_false, not_false_eq_true, and_self, Int.toNat_natCast, Nat.reduceAdd, Nat.reduceLeDiff, Nat.reduceLT, forall_eq', Option.some.injEq, zarR, zarI, zarL, zle, zq0, zq1, zq2, zq3, zq4, zq5, zq6, zq8, zq9, zq10, zq20, zq7, zq12, zq24, zq40, zq41, zq48, zq100, zq120, zq123, zq480, zq492, zq700, zq729, zq2187, zq2916, zq8748, ne_eq, Int.reduceEq, Int.reduceLT, Int.reduceLE, Int.reduceToNat, Int.reduceMul, Int.reduceAdd, Int.reduceNeg, gk91 hg, gr91_5 hg, gr91_22 hg, gr91_23 hg, gr91_24 hg, gr91_25 hg, gr91_26 hg, gr91_27 hg, gr91_28 hg, gr91_29 hg, gr91_32 hg, gr91_33 hg, gr91_34 hg, gr91_35 hg, gr91_36 hg, gr91_37 hg, gr91_38 hg, gr91_39 hg, gr91_40 hg, gr91_41 hg, gr91_42 hg, gr91_44 hg, gr91_45 hg, gr91_46 hg, gr91_48 hg, gr91_49 hg, gr91_50 hg, gr91_51 hg, gr91_52 hg, gk118 hg, gl118 hg, gk119 hg, gl119 hg, c, s4, wr_s (show s < 2147483647 by omega)]
      apply ihj (s + 1) _ (by omega)
      intro h' k0 k1 k2
      apply KK h'
      · intro c i q1 q2
        rw [k0 c i q1 q2, zu_c q2, zu_c q1]
      · intro i q1 q2
        by_cases q : i = s
        · subst q
          have := k2 i (by omega)
          rw [zu_at, zu_c (by decide), zu_at] at this
          exact this
        · exact k1 i (by omega) q2
      · intro i q
        have := k2 i (by omega)
        rw [zu_c (by decide), zu_i (by omega), zu_i (by omega), zu_c (by decide)] at this
        exact this
  simp only [e194_0, e194_1, e194_2, zs0, zsI, zsL, zsR, ztl1, ztl0, zc0, zcI, zcL, zcR, true_and, and_true, true_implies, false_implies, implies_true, not_true_eq_false, not_false_eq_true, and_self, Int.toNat_natCast, Nat.reduceAdd, Nat.reduceLeDiff, Nat.reduceLT, forall_eq', Option.some.injEq, zarR, zarI, zarL, zle, zq0, zq1, zq2, zq3, zq4, zq5, zq6, zq8, zq9, zq10, zq20, zq7, zq12, zq24, zq40, zq41, zq48, zq100, zq120, zq123, zq480, zq492, zq700, zq729, zq2187, zq2916, zq8748, ne_eq, Int.reduceEq, Int.reduceLT, Int.reduceLE, Int.reduceToNat, Int.reduceMul, Int.reduceAdd, Int.reduceNeg, gk91 hg, gr91_5 hg, gr91_22 hg, gr91_23 hg, gr91_24 hg, gr91_25 hg, gr91_26 hg, gr91_27 hg, gr91_28 hg, gr91_29 hg, gr91_32 hg, gr91_33 hg, gr91_34 hg, gr91_35 hg, gr91_36 hg, gr91_37 hg, gr91_38 hg, gr91_39 hg, gr91_40 hg, gr91_41 hg, gr91_42 hg, gr91_44 hg, gr91_45 hg, gr91_46 hg, gr91_48 hg, gr91_49 hg, gr91_50 hg, gr91_51 hg, gr91_52 hg]
  apply m_begins (d := d + 10) (n := n) hg hu h3
  intro h4 f4 a1 a2 a3
  simp only [e194_5, e194_6, zs0, zsI, zsL, zsR, ztl1, ztl0, zc0, zcI, zcL, zcR, true_and, and_true, true_implies, false_implies, implies_true, not_true_eq_false, not_false_eq_true, and_self, Int.toNat_natCast, Nat.reduceAdd, Nat.reduceLeDiff, Nat.reduceLT, forall_eq', Option.some.injEq, zarR, zarI, zarL, zle, zq0, zq1, zq2, zq3, zq4, zq5, zq6, zq8, zq9, zq10, zq20, zq7, zq12, zq24, zq40, zq41, zq48, zq100, zq120, zq123, zq480, zq492, zq700, zq729, zq2187, zq2916, zq8748, ne_eq, Int.reduceEq, Int.reduceLT, Int.reduceLE, Int.reduceToNat, Int.reduceMul, Int.reduceAdd, Int.reduceNeg]
  have z0 := zl 4 0 h4 (by omega)
  rw [zq0] at z0
  apply z0
  intro h5 f5 m5 _
  have V5 : rV h5 u T := rV_frame V (fun c i q => by rw [f5 c i (by omega) (by omega), f4 c i (by omega) (by omega) (by omega)]) (fun i => by rw [f5 _ _ (by omega) (by omega), f4 _ _ (by omega) (by omega) (by omega)]) (fun i _ _ => by rw [f5 _ _ (by omega) (by omega), f4 _ _ (by omega) (by omega) (by omega)])
  have w : ∀ i, i = 19 ∨ i = 20 ∨ i = 21 → h5 91 i = h 91 i := fun i q => by rw [f5 _ _ (by omega) (by omega), f4 _ _ (by omega) (by omega) (by omega)]
  apply lp n h5 hd B (fun _ => 0) (fun _ => 0) _ _ (Nat.le_refl _) b1 b2 b3 h20
  · refine rPre_mk hw V5 (rA_all hw (by rw [w _ (by omega)]; exact h20') (by rw [w _ (by omega)]; exact h21)) (by rw [w _ (by omega)]; exact h19) ?_ ?_ (by rw [f5 _ _ (by omega) (by omega)]; exact a2)
    · intro s hs
      rw [f5 _ _ (by omega) (by omega), a1 s (by omega)]
      exact V.2.2.2.2.2.2.2.2.1 s hs
    · intro s b q1 q2
      rw [f5 _ _ (by omega) (by omega), a3 _ (by omega)]
      exact hh s b q1 q2
  · intro c i q
    rw [f5 c i (by omega) (by omega), f4 c i (by omega) (by omega) (by omega)]
  · intro s q
    rw [(m5 s (by omega) (by omega)).1]
    exact ⟨rfl, Int.le_refl 0, by omega⟩
  · intro s q
    rw [(m5 s (by omega) (by omega)).2]
    exact ⟨rfl, Int.le_refl 0, by omega⟩
  · intro h' k0 k1 k2
    apply K h' k0
    · intro s q
      rw [k1 s q, Int.zero_add]
    · intro s q
      rw [k2 s q, Int.zero_add]
end PY2
