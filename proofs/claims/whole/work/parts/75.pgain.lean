section GB2
variable {d : Nat} {Q : zQ} {G : zG} {h : zM} {T : aTn} {u Y b : Nat} {od nw : Nat → Nat} {hd : Nat → Nat → Int} {B : Int} {x : Int}
/-- the one's state between trials of prices: only what b asks has changed, and what is made anew each time -/
def gT (T : aTn) (od nw : Nat → Nat) (b : Nat) (g h : zM) : Prop := (∀ c i, c < 28 ∨ 45 < c ∨ 37 < c ∧ c < 45 → ¬ (c = 17 ∧ i = 4) → h c i = g c i) ∧ (∀ t, t < nB T → ¬ t = b → h 28 t = pO T od t) ∧ (∀ t, t < nB T → ¬ t = b → h 29 t = pO T nw t) ∧ (∀ s, s < nS T → h 31 s = nn0 T s) ∧ (∀ s, s < nS T → h 32 s = nf0 T s)
theorem gT_by {g h1 : zM} (hg : gS G) (kt : kT g 18 T) (hw : wT T) (hY : g 38 0 = (Y : Int)) (h40 : Y ≤ 40) (b1 : hB hd B) (b3 : B + 100 ≤ 2000000) (h20 : nB T = 2 → ∀ s, hd s 2 = 0) (hh : ∀ s k, s < nS T → k < 3 → g 39 (Y * 12 + k * 4 + s) = hd s k) (hb : b < nB T) (hT : gT T od nw b g h1) {a : Nat} (ha : a < nA T) (K : ∀ h2 : zM, gT T od nw b g h2 → Q (some (zL (eB T od nw hd b (aOld T a) (aNw T a)))) G h2) : zRunD ztb zmt' (d + 5) 79 [zR (some 0), zI b, zI a] G h1 Q := by
  have hs4 := hw.2.1
  obtain ⟨t0, t1, t2, t3, t4⟩ := hT
  apply c_earnedBy (d := d) (od := od) (nw := nw) (hd := hd) (Y := Y) (B := B) hg (kT_frame kt (fun c i q1 q2 => t0 c i (by omega) (by omega))) hw t1 t2 t3 t4 (by rw [t0 _ _ (by omega) (by omega)]; exact hY) h40 b1 b3 h20 (fun s k q1 q2 => by rw [t0 _ _ (by omega) (by omega)]; exact hh s k q1 q2) hb ha
  intro h2 f2
  apply K
  refine ⟨?_, ?_, ?_, ?_, ?_⟩
  · intro c i q1 q2
    rw [f2 c i (by omega) (by omega) (by omega) q2 (by omega) (by omega)]
    exact t0 c i q1 q2
  · intro t q1 q2
    rw [f2 _ _ (by omega) (by omega) (by omega) (by omega) (by omega) (by omega)]
    exact t1 t q1 q2
  · intro t q1 q2
    rw [f2 _ _ (by omega) (by omega) (by omega) (by omega) (by omega) (by omega)]
    exact t2 t q1 q2
  · intro s q
    rw [f2 _ _ (by omega) (by omega) (by omega) (by omega) (by omega) (by omega)]
    exact t3 s q
  · intro s q
    rw [f2 _ _ (by omega) (by omega) (by omega) (by omega) (by omega) (by omega)]
    exact t4 s q
def wB (T : aTn) (od nw : Nat → Nat) (hd : Nat → Nat → Int) (b a : Nat) : Int := eB T od nw hd b (aOld T a) (aNw T a)
theorem c_bestAct {g h1 : zM} (hg : gS G) (kt : kT g 18 T) (hw : wT T) (hY : g 38 0 = (Y : Int)) (h40 : Y ≤ 40) (b1 : hB hd B) (b3 : B + 100 ≤ 2000000) (h20 : nB T = 2 → ∀ s, hd s 2 = 0) (hh : ∀ s k, s < nS T → k < 3 → g 39 (Y * 12 + k * 4 + s) = hd s k) (hb : b < nB T) (hT : gT T od nw b g h1) (K : ∀ h2 : zM, gT T od nw b g h2 → Q (some (zI ((bX (wB T od nw hd b) (nA T - 1)).2 : Nat))) G h2) : zRunD ztb zmt' (d + 6) 78 [zR (some 0), zI b] G h1 Q := by
  rw [r78]
  have na := nA_b hw
  have hp3 := hw.2.2.1
  have cw : ∀ (h1 : zM) (a : Nat) (Q' : zQ), gT T od nw b g h1 → a < nA T → (∀ h2 : zM, gT T od nw b g h2 → Q' (some (zL (wB T od nw hd b a))) G h2) → zRunD ztb zmt' (d + 5) 79 [zR (some 0), zI (b : Int), zI (a : Int)] G h1 Q' := fun h1 a Q' q1 q2 q3 => gT_by hg kt hw hY h40 b1 b3 h20 hh hb q1 q2 q3
  generalize wB T od nw hd b = w at cw K
  have lp : ∀ j k (h1 : zM) (l6 l7 : Option zV), k + j = nA T - 1 → gT T od nw b g h1 → zE 78 (d + 5) Q 12 [some (zR (some 0)), some (zI (b : Int)), some (zI ((bX w k).2 : Nat)), some (zL (bX w k).1), none, some (zI ((k + 1 : Nat) : Int)), l6, l7] [] G h1 (0, 0) := by
    intro j
    induction j with
    | zero =>
      intro k h1 l6 l7 hj hT
      have hj' : k = nA T - 1 := by omega
      have c : (nA T : Int) ≤ ((k + 1 : Nat) : Int) := by omega
      have ca := fun Q' => c_acts16 (d := d + 4) (Q := Q') (h := h1) (T := T) hg (kT_frame kt (fun c i q1 q2 => hT.1 c i (by omega) (by omega))) (by omega)
      rw [e78_12]
      simp only [e78_0, e78_1, e78_2, e78_3, e78_4, e78_5, e78_8, e78_9, e78_10, e78_14, e78_15, e78_18, e78_21, e78_24, e78_25, e78_26, e78_28, e78_31, e78_33, e78_35, e78_36, e78_37, e78_40, e78_42, e78_43, e78_45, e78_46, e78_49, e78_52, e78_53, zs0, zsI, zsL, zsR, ztl1, ztl0, zc0, zcI, zcL, zcR, true_and, and_true, true_implies, false_implies, implies_true, not_true_eq_false, not_false_eq_true, and_self, Int.toNat_natCast, Nat.reduceAdd, Nat.reduceLeDiff, Nat.reduceLT, forall_eq', Option.some.injEq, zarR, zarI, zarL, zle, zq0, zq1, zq2, zq3, zq4, zq5, zq6, zq8, zq9, zq10, zq20, zq7, zq12, zq24, zq40, zq41, zq48, zq100, zq120, zq123, zq480, zq492, zq700, zq729, zq2187, zq2916, zq8748, ne_eq, Int.reduceEq, Int.reduceLT, Int.reduceLE, Int.reduceToNat, Int.reduceMul, Int.reduceAdd, Int.reduceNeg, gk0 hg, gr0_0 hg, gr0_2 hg, gr0_3 hg, gr0_4 hg, gr0_5 hg, gr0_6 hg, gr0_7 hg, gr0_8 hg, gr0_9 hg, gr0_10 hg, gk18 hg, gr18_0 hg, gr18_1 hg, gr18_2 hg, gr18_3 hg, gr18_4 hg, gr18_5 hg, gr18_6 hg, gr18_7 hg, gr18_8 hg, or_true, true_or, if_true, if_false, false_and, and_false, false_or, or_false, ca, c]
      rw [hj']
      exact K _ hT
    | succ j ih =>
      intro k h1 l6 l7 hj hT
      have c : ¬ (nA T : Int) ≤ ((k + 1 : Nat) : Int) := by omega
      have ca := fun Q' => c_acts16 (d := d + 4) (Q := Q') (h := h1) (T := T) hg (kT_frame kt (fun c i q1 q2 => hT.1 c i (by omega) (by omega))) (by omega)
      rw [e78_12]
      simp only [e78_14, e78_15, e78_18, e78_21, e78_24, e78_25, e78_26, e78_28, zs0, zsI, zsL, zsR, ztl1, ztl0, zc0, zcI, zcL, zcR, true_and, and_true, true_implies, false_implies, implies_true, not_true_eq_false, not_false_eq_true, and_self, Int.toNat_natCast, Nat.reduceAdd, Nat.reduceLeDiff, Nat.reduceLT, forall_eq', Option.some.injEq, zarR, zarI, zarL, zle, zq0, zq1, zq2, zq3, zq4, zq5, zq6, zq8, zq9, zq10, zq20, zq7, zq12, zq24, zq40, zq41, zq48, zq100, zq120, zq123, zq480, zq492, zq700, zq729, zq2187, zq2916, zq8748, ne_eq, Int.reduceEq, Int.reduceLT, Int.reduceLE, Int.reduceToNat, Int.reduceMul, Int.reduceAdd, Int.reduceNeg, gk0 hg, gr0_0 hg, gr0_2 hg, gr0_3 hg, gr0_4 hg, gr0_5 hg, gr0_6 hg, gr0_7 hg, gr0_8 hg, gr0_9 hg, gr0_10 hg, gk18 hg, gr18_0 hg, gr18_1 hg, gr18_2 hg, gr18_3 hg, gr18_4 hg, gr18_5 hg, gr18_6 hg, gr18_7 hg, gr18_8 hg, ca, c]
      apply cw h1 (k + 1) _ hT (by omega)
      intro h2 f2
      have i2 := fun l6 l7 => ih (k + 1) h2 l6 l7 (by omega) f2
      by_cases q : (bX w k).1 < w (k + 1)
      · have q2 : ¬ zlc (w (k + 1)) (bX w k).1 ≤ 0 := by rw [zlc_le]; omega
        rw [bX, if_pos q] at i2
        simp only [e78_31, e78_33, e78_35, e78_36, e78_37, e78_40, e78_42, e78_43, e78_45, e78_46, e78_49, e78_52, e78_53, zs0, zsI, zsL, zsR, ztl1, ztl0, zc0, zcI, zcL, zcR, true_and, and_true, true_implies, false_implies, implies_true, not_true_eq_false, not_false_eq_true, and_self, Int.toNat_natCast, Nat.reduceAdd, Nat.reduceLeDiff, Nat.reduceLT, forall_eq', Option.some.injEq, zarR, zarI, zarL, zle, zq0, zq1, zq2, zq3, zq4, zq5, zq6, zq8, zq9, zq10, zq20, zq7, zq12, zq24, zq40, zq41, zq48, zq100, zq120, zq123, zq480, zq492, zq700, zq729, zq2187, zq2916, zq8748, ne_eq, Int.reduceEq, Int.reduceLT, Int.reduceLE, Int.reduceToNat, Int.reduceMul, Int.reduceAdd, Int.reduceNeg, q2, wr_s (show k + 1 < 2147483647 by omega)]
        exact i2 _ _
      · have q2 : zlc (w (k + 1)) (bX w k).1 ≤ 0 := by rw [zlc_le]; omega
        rw [bX, if_neg q] at i2
        simp only [e78_31, e78_33, e78_35, e78_36, e78_37, e78_40, e78_42, e78_43, e78_45, e78_46, e78_49, e78_52, e78_53, zs0, zsI, zsL, zsR, ztl1, ztl0, zc0, zcI, zcL, zcR, true_and, and_true, true_implies, false_implies, implies_true, not_true_eq_false, not_false_eq_true, and_self, Int.toNat_natCast, Nat.reduceAdd, Nat.reduceLeDiff, Nat.reduceLT, forall_eq', Option.some.injEq, zarR, zarI, zarL, zle, zq0, zq1, zq2, zq3, zq4, zq5, zq6, zq8, zq9, zq10, zq20, zq7, zq12, zq24, zq40, zq41, zq48, zq100, zq120, zq123, zq480, zq492, zq700, zq729, zq2187, zq2916, zq8748, ne_eq, Int.reduceEq, Int.reduceLT, Int.reduceLE, Int.reduceToNat, Int.reduceMul, Int.reduceAdd, Int.reduceNeg, q2, wr_s (show k + 1 < 2147483647 by omega)]
        exact i2 _ _
  simp only [e78_0, e78_1, e78_2, e78_3, e78_4, e78_5, zs0, zsI, zsL, zsR, ztl1, ztl0, zc0, zcI, zcL, zcR, true_and, and_true, true_implies, false_implies, implies_true, not_true_eq_false, not_false_eq_true, and_self, Int.toNat_natCast, Nat.reduceAdd, Nat.reduceLeDiff, Nat.reduceLT, forall_eq', Option.some.injEq, zarR, zarI, zarL, zle, zq0, zq1, zq2, zq3, zq4, zq5, zq6, zq8, zq9, zq10, zq20, zq7, zq12, zq24, zq40, zq41, zq48, zq100, zq120, zq123, zq480, zq492, zq700, zq729, zq2187, zq2916, zq8748, ne_eq, Int.reduceEq, Int.reduceLT, Int.reduceLE, Int.reduceToNat, Int.reduceMul, Int.reduceAdd, Int.reduceNeg, gk0 hg, gr0_0 hg, gr0_2 hg, gr0_3 hg, gr0_4 hg, gr0_5 hg, gr0_6 hg, gr0_7 hg, gr0_8 hg, gr0_9 hg, gr0_10 hg]
  have cw0 := cw h1 0
  rw [zq0] at cw0
  apply cw0 _ hT (by omega)
  intro h2 f2
  simp only [e78_8, e78_9, e78_10, e78_14, e78_15, e78_18, e78_21, e78_24, e78_25, e78_26, e78_28, e78_31, e78_33, e78_35, e78_36, e78_37, e78_40, e78_42, e78_43, e78_45, e78_46, e78_49, e78_52, e78_53, zs0, zsI, zsL, zsR, ztl1, ztl0, zc0, zcI, zcL, zcR, true_and, and_true, true_implies, false_implies, implies_true, not_true_eq_false, not_false_eq_true, and_self, Int.toNat_natCast, Nat.reduceAdd, Nat.reduceLeDiff, Nat.reduceLT, forall_eq', Option.some.injEq, zarR, zarI, zarL, zle, zq0, zq1, zq2, zq3, zq4, zq5, zq6, zq8, zq9, zq10, zq20, zq7, zq12, zq24, zq40, zq41, zq48, zq100, zq120, zq123, zq480, zq492, zq700, zq729, zq2187, zq2916, zq8748, ne_eq, Int.reduceEq, Int.reduceLT, Int.reduceLE, Int.reduceToNat, Int.reduceMul, Int.reduceAdd, Int.reduceNeg]
  have l0 := fun l6 l7 => lp (nA T - 1) 0 h2 l6 l7 (by omega) f2
  simp only [bX, zq0, Nat.zero_add, zq1] at l0
  exact l0 _ _
/-- the other's, likewise -/
def gM (g h : zM) : Prop := ∀ c i, c < 94 ∨ c = 100 ∨ c = 101 ∧ i < 12 ∨ 101 < c → h c i = g c i
theorem m_bestAct {h0 : zM} (hg : gS G) (hu : gU G u) (rt : rT h0 u T) (hw : wT T) (hod : ∀ b, b < nB T → h0 102 b = (od b : Int) ∧ od b < nP T) (hnw : ∀ b, b < nB T → h0 103 b = (nw b : Int) ∧ nw b < nP T) (b1 : hB hd B) (b3 : B + 100 ≤ 2000000) (h20 : nB T = 2 → ∀ s, hd s 2 = 0) (hh : ∀ s k, s < nS T → k < nB T → h0 101 (3 * s + k) = hd s k) (hb : b < nB T) (K : ∀ g h2 : zM, (∀ c i, ¬ (c = 91 ∧ 16 ≤ i ∧ i ≤ 21) → ¬ c = 93 → ¬ c = 100 → g c i = h0 c i) → rV g u T → g 91 19 = -1 → (∀ s, s < nS T → g 100 s = tr T 3 s) → gM g h2 → Q (some (zI ((bX (wB T od nw hd b) (nA T - 1)).2 : Nat))) G h2) : zRunD ztb zmt' (d + 9) 191 [zR (some 91), zI b] G h0 Q := by
  rw [r191]
  have u1 := hu.1
  have na := nA_b hw
  have hp3 := hw.2.2.1
  have hb3 := hw.1
  have hs4 := hw.2.1
  simp only [e191_0, e191_1, e191_2, zs0, zsI, zsL, zsR, ztl1, ztl0, zc0, zcI, zcL, zcR, true_and, and_true, true_implies, false_implies, implies_true, not_true_eq_false, not_false_eq_true, and_self, Int.toNat_natCast, Nat.reduceAdd, Nat.reduceLeDiff, Nat.reduceLT, forall_eq', Option.some.injEq, zarR, zarI, zarL, zle, zq0, zq1, zq2, zq3, zq4, zq5, zq6, zq8, zq9, zq10, zq20, zq7, zq12, zq24, zq40, zq41, zq48, zq100, zq120, zq123, zq480, zq492, zq700, zq729, zq2187, zq2916, zq8748, ne_eq, Int.reduceEq, Int.reduceLT, Int.reduceLE, Int.reduceToNat, Int.reduceMul, Int.reduceAdd, Int.reduceNeg, gk91 hg, gr91_5 hg, gr91_22 hg, gr91_23 hg, gr91_24 hg, gr91_25 hg, gr91_26 hg, gr91_27 hg, gr91_28 hg, gr91_29 hg, gr91_32 hg, gr91_33 hg, gr91_34 hg, gr91_35 hg, gr91_36 hg, gr91_37 hg, gr91_38 hg, gr91_39 hg, gr91_40 hg, gr91_41 hg, gr91_42 hg, gr91_44 hg, gr91_45 hg, gr91_46 hg, gr91_48 hg, gr91_49 hg, gr91_50 hg, gr91_51 hg, gr91_52 hg]
  apply m_lays hg hu rt hw (by decide)
  intro h2 f2 V2 v19 v20 v21
  rw [aLaw_0] at V2
  simp only [e191_5, e191_6, zs0, zsI, zsL, zsR, ztl1, ztl0, zc0, zcI, zcL, zcR, true_and, and_true, true_implies, false_implies, implies_true, not_true_eq_false, not_false_eq_true, and_self, Int.toNat_natCast, Nat.reduceAdd, Nat.reduceLeDiff, Nat.reduceLT, forall_eq', Option.some.injEq, zarR, zarI, zarL, zle, zq0, zq1, zq2, zq3, zq4, zq5, zq6, zq8, zq9, zq10, zq20, zq7, zq12, zq24, zq40, zq41, zq48, zq100, zq120, zq123, zq480, zq492, zq700, zq729, zq2187, zq2916, zq8748, ne_eq, Int.reduceEq, Int.reduceLT, Int.reduceLE, Int.reduceToNat, Int.reduceMul, Int.reduceAdd, Int.reduceNeg, gk91 hg, gr91_5 hg, gr91_22 hg, gr91_23 hg, gr91_24 hg, gr91_25 hg, gr91_26 hg, gr91_27 hg, gr91_28 hg, gr91_29 hg, gr91_32 hg, gr91_33 hg, gr91_34 hg, gr91_35 hg, gr91_36 hg, gr91_37 hg, gr91_38 hg, gr91_39 hg, gr91_40 hg, gr91_41 hg, gr91_42 hg, gr91_44 hg, gr91_45 hg, gr91_46 hg, gr91_48 hg, gr91_49 hg, gr91_50 hg, gr91_51 hg, gr91_52 hg]
  apply m_fresh (d := d + 7) hg hu
  intro g f3 m3
  have fg : ∀ c i, ¬ (c = 91 ∧ 16 ≤ i ∧ i ≤ 21) → ¬ c = 93 → ¬ c = 100 → g c i = h0 c i := fun c i q1 q2 q3 => by rw [f3 c i q3, f2 c i q1 q2]
  have Vg : rV g u T := rV_frame V2 (fun c i q => f3 c i (by omega)) (fun i => f3 _ _ (by omega)) (fun i _ _ => f3 _ _ (by omega))
  have g19 : g 91 19 = -1 := by rw [f3 _ _ (by omega)]; exact v19
  have g100 : ∀ s, s < nS T → g 100 s = tr T 3 s := fun s hs => by rw [m3 s (by omega)]; exact V2.2.2.2.2.2.2.2.2.1 s hs
  have Ag : rA g T (fun _ => nA T) := rA_all hw (by rw [f3 _ _ (by omega)]; exact v20) (by rw [f3 _ _ (by omega)]; exact v21)
  have VM : ∀ h1, gM g h1 → rV h1 u T := fun h1 q => rV_frame Vg (fun c i q1 => q c i (by omega)) (fun i => q _ _ (by omega)) (fun i _ _ => q _ _ (by omega))
  have cw : ∀ (h1 : zM) (a : Nat) (Q' : zQ), gM g h1 → a < nA T → (∀ h2 : zM, gM g h2 → Q' (some (zI (wB T od nw hd b a))) G h2) → zRunD ztb zmt' (d + 8) 190 [zR (some 91), zI (b : Int), zI (aOld T a : Nat), zI (aNw T a : Nat)] G h1 Q' := by
    intro h1 a Q' q ha KK
    apply m_earnsBy (d := d) (od := od) (nw := nw) (hd := hd) (B := B) hg hu (VM h1 q) (rT_frame rt (fun c i q1 => by rw [q c i (by omega), fg c i (by omega) (by omega) (by omega)])) hw (by rw [q _ _ (by omega)]; exact g19) (fun s hs => by rw [q _ _ (by omega)]; exact g100 s hs) (fun b hb => by rw [q _ _ (by omega), fg _ _ (by omega) (by omega) (by omega)]; exact hod b hb) (fun b hb => by rw [q _ _ (by omega), fg _ _ (by omega) (by omega) (by omega)]; exact hnw b hb) b1 b3 h20 (fun s k q1 q2 => by rw [q _ _ (by omega), fg _ _ (by omega) (by omega) (by omega)]; exact hh s k q1 q2) hb (aOld_b hw ha) (aNw_b hw ha)
    intro h3 f
    exact KK h3 (fun c i z => by rw [f c i z, q c i z])
  have KK := fun h2 q => K g h2 fg Vg g19 g100 q
  generalize wB T od nw hd b = w at cw KK
  have lp : ∀ j k (h1 : zM) (l5 : Option zV), k + j = nA T - 1 → gM g h1 → zE 191 (d + 8) Q 30 [some (zR (some 91)), some (zI (b : Int)), some (zI ((bX w k).2 : Nat)), some (zI (bX w k).1), some (zI ((k + 1 : Nat) : Int)), l5] [] G h1 (0, 0) := by
    intro j
    induction j with
    | zero =>
      intro k h1 l5 hj hT
      have hj' : k = nA T - 1 := by omega
      have c : (nA T : Int) ≤ ((k + 1 : Nat) : Int) := by omega
      have ma := fun Q' => m_actsOf (d := d + 7) (Q := Q') (h := h1) (b := b) hg hu (VM h1 hT) hw (rA_fr Ag (hT _ _ (by omega)) (hT _ _ (by omega))) hb
      rw [e191_30]
      simp only [e191_0, e191_1, e191_2, e191_5, e191_6, e191_9, e191_10, e191_11, e191_12, e191_13, e191_14, e191_15, e191_18, e191_19, e191_20, e191_23, e191_26, e191_27, e191_28, e191_32, e191_33, e191_34, e191_37, e191_40, e191_41, e191_42, e191_43, e191_45, e191_48, e191_49, e191_51, e191_54, e191_57, e191_59, e191_61, e191_62, e191_65, e191_68, e191_70, e191_71, e191_73, e191_74, e191_77, e191_80, e191_81, zs0, zsI, zsL, zsR, ztl1, ztl0, zc0, zcI, zcL, zcR, true_and, and_true, true_implies, false_implies, implies_true, not_true_eq_false, not_false_eq_true, and_self, Int.toNat_natCast, Nat.reduceAdd, Nat.reduceLeDiff, Nat.reduceLT, forall_eq', Option.some.injEq, zarR, zarI, zarL, zle, zq0, zq1, zq2, zq3, zq4, zq5, zq6, zq8, zq9, zq10, zq20, zq7, zq12, zq24, zq40, zq41, zq48, zq100, zq120, zq123, zq480, zq492, zq700, zq729, zq2187, zq2916, zq8748, ne_eq, Int.reduceEq, Int.reduceLT, Int.reduceLE, Int.reduceToNat, Int.reduceMul, Int.reduceAdd, Int.reduceNeg, gk91 hg, gr91_5 hg, gr91_22 hg, gr91_23 hg, gr91_24 hg, gr91_25 hg, gr91_26 hg, gr91_27 hg, gr91_28 hg, gr91_29 hg, gr91_32 hg, gr91_33 hg, gr91_34 hg, gr91_35 hg, gr91_36 hg, gr91_37 hg, gr91_38 hg, gr91_39 hg, gr91_40 hg, gr91_41 hg, gr91_42 hg, gr91_44 hg, gr91_45 hg, gr91_46 hg, gr91_48 hg, gr91_49 hg, gr91_50 hg, gr91_51 hg, gr91_52 hg, or_true, true_or, if_true, if_false, false_and, and_false, false_or, or_false, ma, c]
      rw [hj']
      exact KK _ hT
    | succ j ih =>
      intro k h1 l5 hj hT
      have c : ¬ (nA T : Int) ≤ ((k + 1 : Nat) : Int) := by omega
      have ma := fun Q' => m_actsOf (d := d + 7) (Q := Q') (h := h1) (b := b) hg hu (VM h1 hT) hw (rA_fr Ag (hT _ _ (by omega)) (hT _ _ (by omega))) hb
      have mo := fun Q' => m_old (d := d + 7) (Q := Q') (h := h1) (a := k + 1) hg hu (VM h1 hT) hw (by omega)
      have mn := fun Q' => m_new (d := d + 7) (Q := Q') (h := h1) (a := k + 1) hg hu (VM h1 hT) hw
      rw [e191_30]
      simp only [e191_32, e191_33, e191_34, e191_37, e191_40, e191_41, e191_42, e191_43, e191_45, e191_48, e191_49, e191_51, e191_54, zs0, zsI, zsL, zsR, ztl1, ztl0, zc0, zcI, zcL, zcR, true_and, and_true, true_implies, false_implies, implies_true, not_true_eq_false, not_false_eq_true, and_self, Int.toNat_natCast, Nat.reduceAdd, Nat.reduceLeDiff, Nat.reduceLT, forall_eq', Option.some.injEq, zarR, zarI, zarL, zle, zq0, zq1, zq2, zq3, zq4, zq5, zq6, zq8, zq9, zq10, zq20, zq7, zq12, zq24, zq40, zq41, zq48, zq100, zq120, zq123, zq480, zq492, zq700, zq729, zq2187, zq2916, zq8748, ne_eq, Int.reduceEq, Int.reduceLT, Int.reduceLE, Int.reduceToNat, Int.reduceMul, Int.reduceAdd, Int.reduceNeg, gk91 hg, gr91_5 hg, gr91_22 hg, gr91_23 hg, gr91_24 hg, gr91_25 hg, gr91_26 hg, gr91_27 hg, gr91_28 hg, gr91_29 hg, gr91_32 hg, gr91_33 hg, gr91_34 hg, gr91_35 hg, gr91_36 hg, gr91_37 hg, gr91_38 hg, gr91_39 hg, gr91_40 hg, gr91_41 hg, gr91_42 hg, gr91_44 hg, gr91_45 hg, gr91_46 hg, gr91_48 hg, gr91_49 hg, gr91_50 hg, gr91_51 hg, gr91_52 hg, ma, c, mo, mn]
      apply cw h1 (k + 1) _ hT (by omega)
      intro h2 f2
      have i2 := fun l5 => ih (k + 1) h2 l5 (by omega) f2
      by_cases q : (bX w k).1 < w (k + 1)
      · rw [bX, if_pos q] at i2
        simp only [e191_57, e191_59, e191_61, e191_62, e191_65, e191_68, e191_70, e191_71, e191_73, e191_74, e191_77, e191_80, e191_81, zs0, zsI, zsL, zsR, ztl1, ztl0, zc0, zcI, zcL, zcR, true_and, and_true, true_implies, false_implies, implies_true, not_true_eq_false, not_false_eq_true, and_self, Int.toNat_natCast, Nat.reduceAdd, Nat.reduceLeDiff, Nat.reduceLT, forall_eq', Option.some.injEq, zarR, zarI, zarL, zle, zq0, zq1, zq2, zq3, zq4, zq5, zq6, zq8, zq9, zq10, zq20, zq7, zq12, zq24, zq40, zq41, zq48, zq100, zq120, zq123, zq480, zq492, zq700, zq729, zq2187, zq2916, zq8748, ne_eq, Int.reduceEq, Int.reduceLT, Int.reduceLE, Int.reduceToNat, Int.reduceMul, Int.reduceAdd, Int.reduceNeg, q, wr_s (show k + 1 < 2147483647 by omega)]
        exact i2 _
      · rw [bX, if_neg q] at i2
        simp only [e191_57, e191_59, e191_61, e191_62, e191_65, e191_68, e191_70, e191_71, e191_73, e191_74, e191_77, e191_80, e191_81, zs0, zsI, zsL, zsR, ztl1, ztl0, zc0, zcI, zcL, zcR, true_and, and_true, true_implies, false_implies, implies_true, not_true_eq_false, not_false_eq_true, and_self, Int.toNat_natCast, Nat.reduceAdd, Nat.reduceLeDiff, Nat.reduceLT, forall_eq', Option.some.injEq, zarR, zarI, zarL, zle, zq0, zq1, zq2, zq3, zq4, zq5, zq6, zq8, zq9, zq10, zq20, zq7, zq12, zq24, zq40, zq41, zq48, zq100, zq120, zq123, zq480, zq492, zq700, zq729, zq2187, zq2916, zq8748, ne_eq, Int.reduceEq, Int.reduceLT, Int.reduceLE, Int.reduceToNat, Int.reduceMul, Int.reduceAdd, Int.reduceNeg, q, wr_s (show k + 1 < 2147483647 by omega)]
        exact i2 _
  have mo := fun Q' => m_old (d := d + 7) (Q := Q') (h := g) (a := 0) hg hu Vg hw (by decide)
  have mn := fun Q' => m_new (d := d + 7) (Q := Q') (h := g) (a := 0) hg hu Vg hw
  simp only [zq0] at mo mn
  simp only [e191_9, e191_10, e191_11, e191_12, e191_13, e191_14, e191_15, e191_18, e191_19, e191_20, e191_23, zs0, zsI, zsL, zsR, ztl1, ztl0, zc0, zcI, zcL, zcR, true_and, and_true, true_implies, false_implies, implies_true, not_true_eq_false, not_false_eq_true, and_self, Int.toNat_natCast, Nat.reduceAdd, Nat.reduceLeDiff, Nat.reduceLT, forall_eq', Option.some.injEq, zarR, zarI, zarL, zle, zq0, zq1, zq2, zq3, zq4, zq5, zq6, zq8, zq9, zq10, zq20, zq7, zq12, zq24, zq40, zq41, zq48, zq100, zq120, zq123, zq480, zq492, zq700, zq729, zq2187, zq2916, zq8748, ne_eq, Int.reduceEq, Int.reduceLT, Int.reduceLE, Int.reduceToNat, Int.reduceMul, Int.reduceAdd, Int.reduceNeg, gk91 hg, gr91_5 hg, gr91_22 hg, gr91_23 hg, gr91_24 hg, gr91_25 hg, gr91_26 hg, gr91_27 hg, gr91_28 hg, gr91_29 hg, gr91_32 hg, gr91_33 hg, gr91_34 hg, gr91_35 hg, gr91_36 hg, gr91_37 hg, gr91_38 hg, gr91_39 hg, gr91_40 hg, gr91_41 hg, gr91_42 hg, gr91_44 hg, gr91_45 hg, gr91_46 hg, gr91_48 hg, gr91_49 hg, gr91_50 hg, gr91_51 hg, gr91_52 hg, mo, mn]
  apply cw g 0 _ (fun _ _ _ => rfl) (by omega)
  intro h4 f4
  simp only [e191_26, e191_27, e191_28, e191_32, e191_33, e191_34, e191_37, e191_40, e191_41, e191_42, e191_43, e191_45, e191_48, e191_49, e191_51, e191_54, e191_57, e191_59, e191_61, e191_62, e191_65, e191_68, e191_70, e191_71, e191_73, e191_74, e191_77, e191_80, e191_81, zs0, zsI, zsL, zsR, ztl1, ztl0, zc0, zcI, zcL, zcR, true_and, and_true, true_implies, false_implies, implies_true, not_true_eq_false, not_false_eq_true, and_self, Int.toNat_natCast, Nat.reduceAdd, Nat.reduceLeDiff, Nat.reduceLT, forall_eq', Option.some.injEq, zarR, zarI, zarL, zle, zq0, zq1, zq2, zq3, zq4, zq5, zq6, zq8, zq9, zq10, zq20, zq7, zq12, zq24, zq40, zq41, zq48, zq100, zq120, zq123, zq480, zq492, zq700, zq729, zq2187, zq2916, zq8748, ne_eq, Int.reduceEq, Int.reduceLT, Int.reduceLE, Int.reduceToNat, Int.reduceMul, Int.reduceAdd, Int.reduceNeg]
  have l0 := fun l5 => lp (nA T - 1) 0 h4 l5 (by omega) f4
  simp only [bX, zq0, Nat.zero_add, zq1] at l0
  exact l0 _
theorem aOf_on (hw : wT T) {o n : Nat} (ho : o < nP T) (hn : n < nP T) (ht : tw T = 0 → n = o) : aOld T (aOf T o n) = o ∧ aNw T (aOf T o n) = n ∧ aOf T o n < nA T := by
  have hp := hw.2.2.1
  unfold aOld aNw aOf nA
  by_cases t : tw T = 1
  · rw [if_pos t, if_pos t, if_pos t, if_pos t]
    have e : o * nP T + n = n + nP T * o := by rw [Nat.mul_comm]; omega
    refine ⟨?_, ?_, ?_⟩
    · rw [e, Nat.add_mul_div_left _ _ (by omega), Nat.div_eq_of_lt hn, Nat.zero_add]
    · rw [e, Nat.add_mul_mod_self_left, Nat.mod_eq_of_lt hn]
    · have : (o + 1) * nP T ≤ nP T * nP T := Nat.mul_le_mul (by omega) (Nat.le_refl _)
      rw [Nat.add_mul] at this
      omega
  · have t0 : tw T = 0 := by rcases hw.2.2.2.1 with q | q <;> omega
    rw [if_neg t, if_neg t, if_neg t, if_neg t]
    exact ⟨rfl, (ht t0).symm, ho⟩
theorem p_best (hI : INV G h) : PR zI d 77 193 [zI x] G h := by
  have hg := hI.1
  have hk := INV_gK hI
  obtain ⟨mb, ms⟩ := INV_mF hI
  rcases rng_c 0 (h 18 9) x with ⟨e, e1, e2⟩ | ⟨e, e2⟩
  · obtain ⟨u, T, Y, hu, hu2, hw, kt, rt, i4, i5⟩ := INV_T hI (by omega)
    obtain ⟨b, rfl⟩ := Int.eq_ofNat_of_zero_le e1
    have u1 := hu.1
    have hY := i4.1.1
    have hYe := i4.1.2.1
    have hb3 := hw.1
    have hs4 := hw.2.1
    have hp3 := hw.2.2.1
    have na := nA_b hw
    have e9 := kt.1
    have hb : b < nB T := by omega
    have b3 : (b : Int) < 3 := by omega
    obtain ⟨od, nw, hod⟩ := I4_od i4
    have ok := I4_pOk i4
    have hod' : ∀ b, b < nB T → h 102 b = (od b : Int) ∧ od b < nP T := fun b q => ⟨(hod b (by omega)).2.2.1, (hod b (by omega)).1.2⟩
    have hnw' : ∀ b, b < nB T → h 103 b = (nw b : Int) ∧ nw b < nP T := fun b q => ⟨(hod b (by omega)).2.2.2.1, (hod b (by omega)).2.1.2⟩
    have kt0 : kT (zu h 0 11 0) 18 T := kT_frame kt (fun c i q1 q2 => zu_c (by omega))
    have bx := bX_le (wB T od nw (hdC T h Y) b) (nA T - 1)
    obtain ⟨a, ha⟩ : ∃ a, a = (bX (wB T od nw (hdC T h Y) b) (nA T - 1)).2 := ⟨_, rfl⟩
    have ha2 : a < nA T := by omega
    have q39 : ∀ s k, s < nS T → k < 3 → (zu h 0 11 0) 39 (Y * 12 + k * 4 + s) = hdC T h Y s k := fun s k q1 q2 => by
      rw [zu_c (by decide)]
      unfold hdC
      rw [if_pos ⟨q1, q2⟩]
    have cfrT : ∀ h2, gT T od nw b (zu h 0 11 0) h2 → cfr h h2 ∧ h2 0 11 = 0 := fun h2 q => by
      refine ⟨?_, by rw [q.1 _ _ (by omega) (by omega), zu_at]⟩
      intro c i z
      unfold core at z
      rw [q.1 c i (by omega) (by omega), zu, if_neg (by omega)]
    have openY : ∀ Q' : zQ, (∀ h2, gT T od nw b (zu h 0 11 0) h2 → Q' none G h2) → zRunD ztb zmt' (d + 15) 107 [zR (some 0)] G (zu h 0 11 0) Q' := by
      intro Q' KK
      rw [r107]
      simp only [e107_0, e107_1, zs0, zsI, zsL, zsR, ztl1, ztl0, zc0, zcI, zcL, zcR, true_and, and_true, true_implies, false_implies, implies_true, not_true_eq_false, not_false_eq_true, and_self, Int.toNat_natCast, Nat.reduceAdd, Nat.reduceLeDiff, Nat.reduceLT, forall_eq', Option.some.injEq, zarR, zarI, zarL, zle, zq0, zq1, zq2, zq3, zq4, zq5, zq6, zq8, zq9, zq10, zq20, zq7, zq12, zq24, zq40, zq41, zq48, zq100, zq120, zq123, zq480, zq492, zq700, zq729, zq2187, zq2916, zq8748, ne_eq, Int.reduceEq, Int.reduceLT, Int.reduceLE, Int.reduceToNat, Int.reduceMul, Int.reduceAdd, Int.reduceNeg, gk0 hg, gr0_0 hg, gr0_2 hg, gr0_3 hg, gr0_4 hg, gr0_5 hg, gr0_6 hg, gr0_7 hg, gr0_8 hg, gr0_9 hg, gr0_10 hg]
      apply c_open (d := d + 12) hg kt0 hw (Y := Y) (by rw [zu_c (by decide)]; exact hYe) hY (od := od) (nw := nw) (fun b hb => by rw [zu_c (by decide)]; exact (hod b (by omega)).1) (fun b hb => by rw [zu_c (by decide)]; exact (hod b (by omega)).2.1)
      intro h1 f1 o1 n1
      simp only [e107_4, e107_5, e107_8, zs0, zsI, zsL, zsR, ztl1, ztl0, zc0, zcI, zcL, zcR, true_and, and_true, true_implies, false_implies, implies_true, not_true_eq_false, not_false_eq_true, and_self, Int.toNat_natCast, Nat.reduceAdd, Nat.reduceLeDiff, Nat.reduceLT, forall_eq', Option.some.injEq, zarR, zarI, zarL, zle, zq0, zq1, zq2, zq3, zq4, zq5, zq6, zq8, zq9, zq10, zq20, zq7, zq12, zq24, zq40, zq41, zq48, zq100, zq120, zq123, zq480, zq492, zq700, zq729, zq2187, zq2916, zq8748, ne_eq, Int.reduceEq, Int.reduceLT, Int.reduceLE, Int.reduceToNat, Int.reduceMul, Int.reduceAdd, Int.reduceNeg, gk0 hg, gr0_0 hg, gr0_2 hg, gr0_3 hg, gr0_4 hg, gr0_5 hg, gr0_6 hg, gr0_7 hg, gr0_8 hg, gr0_9 hg, gr0_10 hg, gk16 hg, gr16_0 hg, gr16_1 hg, gr16_2 hg, gr16_3 hg, gr16_4 hg, gr16_5 hg, gr16_6 hg, gr16_7 hg, gr16_8 hg]
      apply c_asTold16 (d := d + 12) hg (kT_frame kt0 (fun c i q1 q2 => f1 c i (by omega) (by omega))) hw
      intro h2 f2 m1 m2
      simp only [e107_11, zs0, zsI, zsL, zsR, ztl1, ztl0, zc0, zcI, zcL, zcR, true_and, and_true, true_implies, false_implies, implies_true, not_true_eq_false, not_false_eq_true, and_self, Int.toNat_natCast, Nat.reduceAdd, Nat.reduceLeDiff, Nat.reduceLT, forall_eq', Option.some.injEq, zarR, zarI, zarL, zle, zq0, zq1, zq2, zq3, zq4, zq5, zq6, zq8, zq9, zq10, zq20, zq7, zq12, zq24, zq40, zq41, zq48, zq100, zq120, zq123, zq480, zq492, zq700, zq729, zq2187, zq2916, zq8748, ne_eq, Int.reduceEq, Int.reduceLT, Int.reduceLE, Int.reduceToNat, Int.reduceMul, Int.reduceAdd, Int.reduceNeg]
      apply KK h2
      refine ⟨fun c i q1 q2 => by rw [f2 c i (by omega) (by omega), f1 c i (by omega) (by omega)], fun t q1 _ => by rw [f2 _ _ (by omega) (by omega)]; exact o1 t q1, fun t q1 _ => by rw [f2 _ _ (by omega) (by omega)]; exact n1 t q1, m1, m2⟩
    refine PR_q (z := 10 * ((aOld T a : Nat) : Int) + ((aNw T a : Nat) : Int)) (tr := 0) hI (by decide) ?_ ?_
    · intro Q K
      rw [r77]
      simp only [e77_0, e77_1, e77_2, e77_3, e77_6, e77_9, e77_10, e77_13, e77_14, e77_17, e77_18, e77_21, e77_24, e77_25, e77_26, e77_27, zs0, zsI, zsL, zsR, ztl1, ztl0, zc0, zcI, zcL, zcR, true_and, and_true, true_implies, false_implies, implies_true, not_true_eq_false, not_false_eq_true, and_self, Int.toNat_natCast, Nat.reduceAdd, Nat.reduceLeDiff, Nat.reduceLT, forall_eq', Option.some.injEq, zarR, zarI, zarL, zle, zq0, zq1, zq2, zq3, zq4, zq5, zq6, zq8, zq9, zq10, zq20, zq7, zq12, zq24, zq40, zq41, zq48, zq100, zq120, zq123, zq480, zq492, zq700, zq729, zq2187, zq2916, zq8748, ne_eq, Int.reduceEq, Int.reduceLT, Int.reduceLE, Int.reduceToNat, Int.reduceMul, Int.reduceAdd, Int.reduceNeg, gk0 hg, gr0_0 hg, gr0_2 hg, gr0_3 hg, gr0_4 hg, gr0_5 hg, gr0_6 hg, gr0_7 hg, gr0_8 hg, gr0_9 hg, gr0_10 hg, f_isBaker hg, e, zu_at]
      apply openY
      intro h1 g1
      simp only [e77_30, e77_31, e77_32, zs0, zsI, zsL, zsR, ztl1, ztl0, zc0, zcI, zcL, zcR, true_and, and_true, true_implies, false_implies, implies_true, not_true_eq_false, not_false_eq_true, and_self, Int.toNat_natCast, Nat.reduceAdd, Nat.reduceLeDiff, Nat.reduceLT, forall_eq', Option.some.injEq, zarR, zarI, zarL, zle, zq0, zq1, zq2, zq3, zq4, zq5, zq6, zq8, zq9, zq10, zq20, zq7, zq12, zq24, zq40, zq41, zq48, zq100, zq120, zq123, zq480, zq492, zq700, zq729, zq2187, zq2916, zq8748, ne_eq, Int.reduceEq, Int.reduceLT, Int.reduceLE, Int.reduceToNat, Int.reduceMul, Int.reduceAdd, Int.reduceNeg, gk0 hg, gr0_0 hg, gr0_2 hg, gr0_3 hg, gr0_4 hg, gr0_5 hg, gr0_6 hg, gr0_7 hg, gr0_8 hg, gr0_9 hg, gr0_10 hg]
      apply c_bestAct (d := d + 9) (hd := hdC T h Y) (Y := Y) (B := 30100 * (Y : Int) + 29997) hg kt0 hw (by rw [zu_c (by decide)]; exact hYe) hY ok.1 (by omega) ok.2.2 q39 hb g1
      intro h2 g2
      rw [← ha]
      have kt2 : kT h2 18 T := kT_frame kt0 (fun c i q1 q2 => g2.1 c i (by omega) (by omega))
      have co := fun Q' => c_old16 (d := d + 14) (Q := Q') (h := h2) (T := T) (a := a) hg kt2 (by omega) (by omega)
      have cn := fun Q' => c_new16 (d := d + 14) (Q := Q') (h := h2) (T := T) (a := a) hg kt2 (by omega)
      have o1 := aOld_b hw ha2
      have n1 := aNw_b hw ha2
      have w1 : wr (10 * ((aOld T a : Nat) : Int)) = 10 * ((aOld T a : Nat) : Int) := wr_id (by omega)
      have w2 : wr (10 * ((aOld T a : Nat) : Int) + ((aNw T a : Nat) : Int)) = 10 * ((aOld T a : Nat) : Int) + ((aNw T a : Nat) : Int) := wr_id (by omega)
      simp only [e77_35, e77_36, e77_38, e77_39, e77_42, e77_43, e77_46, e77_47, e77_48, e77_51, e77_52, e77_55, e77_56, zs0, zsI, zsL, zsR, ztl1, ztl0, zc0, zcI, zcL, zcR, true_and, and_true, true_implies, false_implies, implies_true, not_true_eq_false, not_false_eq_true, and_self, Int.toNat_natCast, Nat.reduceAdd, Nat.reduceLeDiff, Nat.reduceLT, forall_eq', Option.some.injEq, zarR, zarI, zarL, zle, zq0, zq1, zq2, zq3, zq4, zq5, zq6, zq8, zq9, zq10, zq20, zq7, zq12, zq24, zq40, zq41, zq48, zq100, zq120, zq123, zq480, zq492, zq700, zq729, zq2187, zq2916, zq8748, ne_eq, Int.reduceEq, Int.reduceLT, Int.reduceLE, Int.reduceToNat, Int.reduceMul, Int.reduceAdd, Int.reduceNeg, gk0 hg, gr0_0 hg, gr0_2 hg, gr0_3 hg, gr0_4 hg, gr0_5 hg, gr0_6 hg, gr0_7 hg, gr0_8 hg, gr0_9 hg, gr0_10 hg, gk18 hg, gr18_0 hg, gr18_1 hg, gr18_2 hg, gr18_3 hg, gr18_4 hg, gr18_5 hg, gr18_6 hg, gr18_7 hg, gr18_8 hg, co, cn, w1, w2]
      exact K h2 (cfrT h2 g2).1 (cfrT h2 g2).2
    · intro h1 f1 Q K
      have fz : ∀ c i, 91 ≤ c → ¬ (c = 91 ∧ i = 0) → (zu h1 91 0 0) c i = h c i := fun c i q q2 => by rw [zu, if_neg q2, f1 c i (Or.inl q)]
      have rt0 : rT (zu h1 91 0 0) u T := rT_frame rt (fun c i q => fz c i (by omega) (by omega))
      have mfrG : ∀ g h2 : zM, (∀ c i, ¬ (c = 91 ∧ 16 ≤ i ∧ i ≤ 21) → ¬ c = 93 → ¬ c = 100 → g c i = (zu h1 91 0 0) c i) → gM g h2 → mfr h1 (zu (zu h2 91 1 0) 91 2 (-1)) := by
        intro g h2 q1 q2 c i z
        unfold core at z
        rw [zu, if_neg (by omega), zu, if_neg (by omega), q2 c i (by omega), q1 c i (by omega) (by omega) (by omega), zu, if_neg (by omega)]
      rw [r193]
      simp only [e193_0, e193_1, e193_2, e193_5, e193_6, e193_7, e193_10, e193_13, e193_14, e193_15, e193_18, e193_19, e193_20, e193_21, zs0, zsI, zsL, zsR, ztl1, ztl0, zc0, zcI, zcL, zcR, true_and, and_true, true_implies, false_implies, implies_true, not_true_eq_false, not_false_eq_true, and_self, Int.toNat_natCast, Nat.reduceAdd, Nat.reduceLeDiff, Nat.reduceLT, forall_eq', Option.some.injEq, zarR, zarI, zarL, zle, zq0, zq1, zq2, zq3, zq4, zq5, zq6, zq8, zq9, zq10, zq20, zq7, zq12, zq24, zq40, zq41, zq48, zq100, zq120, zq123, zq480, zq492, zq700, zq729, zq2187, zq2916, zq8748, ne_eq, Int.reduceEq, Int.reduceLT, Int.reduceLE, Int.reduceToNat, Int.reduceMul, Int.reduceAdd, Int.reduceNeg, gk91 hg, gr91_5 hg, gr91_22 hg, gr91_23 hg, gr91_24 hg, gr91_25 hg, gr91_26 hg, gr91_27 hg, gr91_28 hg, gr91_29 hg, gr91_32 hg, gr91_33 hg, gr91_34 hg, gr91_35 hg, gr91_36 hg, gr91_37 hg, gr91_38 hg, gr91_39 hg, gr91_40 hg, gr91_41 hg, gr91_42 hg, gr91_44 hg, gr91_45 hg, gr91_46 hg, gr91_48 hg, gr91_49 hg, gr91_50 hg, gr91_51 hg, gr91_52 hg, m_isBaker hg hk, mF_z hk (show 91 < 121 by decide), mF_fr hk f1, mb, e]
      apply m_bestAct (d := d + 6) (od := od) (nw := nw) (hd := hdC T h Y) (B := 30100 * (Y : Int) + 29997) hg hu rt0 hw (fun b hb => by rw [fz _ _ (by omega) (by omega)]; exact hod' b hb) (fun b hb => by rw [fz _ _ (by omega) (by omega)]; exact hnw' b hb) ok.1 (by omega) ok.2.2 (hd_101 hw i4 (fun i => fz _ _ (by omega) (by omega))) hb
      intro g h2 fg Vg g19 g100 q2
      rw [← ha]
      have V2 : ∀ h3, gM g h3 → rV h3 u T := fun h3 q => rV_frame Vg (fun c i q1 => q c i (by omega)) (fun i => q _ _ (by omega)) (fun i _ _ => q _ _ (by omega))
      have mo := fun h3 q Q' => m_old (d := d + 14) (Q := Q') (h := h3) (a := a) hg hu (V2 h3 q) hw (by omega)
      have mn := fun h3 q Q' => m_new (d := d + 14) (Q := Q') (h := h3) (a := a) hg hu (V2 h3 q) hw
      have mo2 := mo h2 q2
      have mn2 := mn h2 q2
      have o1 := aOld_b hw ha2
      have n1 := aNw_b hw ha2
      have w1 : wr (10 * ((aOld T a : Nat) : Int)) = 10 * ((aOld T a : Nat) : Int) := wr_id (by omega)
      have w2 : wr (10 * ((aOld T a : Nat) : Int) + ((aNw T a : Nat) : Int)) = 10 * ((aOld T a : Nat) : Int) + ((aNw T a : Nat) : Int) := wr_id (by omega)
      simp only [e193_24, e193_25, e193_26, e193_28, e193_29, e193_30, e193_33, e193_34, e193_35, e193_36, e193_39, e193_40, e193_43, zs0, zsI, zsL, zsR, ztl1, ztl0, zc0, zcI, zcL, zcR, true_and, and_true, true_implies, false_implies, implies_true, not_true_eq_false, not_false_eq_true, and_self, Int.toNat_natCast, Nat.reduceAdd, Nat.reduceLeDiff, Nat.reduceLT, forall_eq', Option.some.injEq, zarR, zarI, zarL, zle, zq0, zq1, zq2, zq3, zq4, zq5, zq6, zq8, zq9, zq10, zq20, zq7, zq12, zq24, zq40, zq41, zq48, zq100, zq120, zq123, zq480, zq492, zq700, zq729, zq2187, zq2916, zq8748, ne_eq, Int.reduceEq, Int.reduceLT, Int.reduceLE, Int.reduceToNat, Int.reduceMul, Int.reduceAdd, Int.reduceNeg, gk91 hg, gr91_5 hg, gr91_22 hg, gr91_23 hg, gr91_24 hg, gr91_25 hg, gr91_26 hg, gr91_27 hg, gr91_28 hg, gr91_29 hg, gr91_32 hg, gr91_33 hg, gr91_34 hg, gr91_35 hg, gr91_36 hg, gr91_37 hg, gr91_38 hg, gr91_39 hg, gr91_40 hg, gr91_41 hg, gr91_42 hg, gr91_44 hg, gr91_45 hg, gr91_46 hg, gr91_48 hg, gr91_49 hg, gr91_50 hg, gr91_51 hg, gr91_52 hg, mo2, mn2, w1, w2, m_done hg]
      exact K _ (mfrG g h2 fg q2) (by rw [zu_i (by decide), zu_at]) zu_at
  · refine PR_q (z := -1) (tr := 1) hI (by decide) ?_ ?_
    · intro Q K
      rw [r77]
      simp only [e77_0, e77_1, e77_2, e77_3, e77_6, e77_9, e77_10, e77_13, e77_14, e77_17, e77_18, e77_21, e77_24, e77_25, e77_26, e77_27, e77_30, e77_31, e77_32, e77_35, e77_36, e77_38, e77_39, e77_42, e77_43, e77_46, e77_47, e77_48, e77_51, e77_52, e77_55, e77_56, zs0, zsI, zsL, zsR, ztl1, ztl0, zc0, zcI, zcL, zcR, true_and, and_true, true_implies, false_implies, implies_true, not_true_eq_false, not_false_eq_true, and_self, Int.toNat_natCast, Nat.reduceAdd, Nat.reduceLeDiff, Nat.reduceLT, forall_eq', Option.some.injEq, zarR, zarI, zarL, zle, zq0, zq1, zq2, zq3, zq4, zq5, zq6, zq8, zq9, zq10, zq20, zq7, zq12, zq24, zq40, zq41, zq48, zq100, zq120, zq123, zq480, zq492, zq700, zq729, zq2187, zq2916, zq8748, ne_eq, Int.reduceEq, Int.reduceLT, Int.reduceLE, Int.reduceToNat, Int.reduceMul, Int.reduceAdd, Int.reduceNeg, gk0 hg, gr0_0 hg, gr0_2 hg, gr0_3 hg, gr0_4 hg, gr0_5 hg, gr0_6 hg, gr0_7 hg, gr0_8 hg, gr0_9 hg, gr0_10 hg, or_true, true_or, if_true, if_false, false_and, and_false, false_or, or_false, f_isBaker hg, e, zu_at]
      exact K _ cfr.z zu_at
    · intro h1 f1 Q K
      rw [r193]
      simp only [e193_0, e193_1, e193_2, e193_5, e193_6, e193_7, e193_10, e193_13, e193_14, e193_15, e193_18, e193_19, e193_20, e193_21, e193_24, e193_25, e193_26, e193_28, e193_29, e193_30, e193_33, e193_34, e193_35, e193_36, e193_39, e193_40, e193_43, zs0, zsI, zsL, zsR, ztl1, ztl0, zc0, zcI, zcL, zcR, true_and, and_true, true_implies, false_implies, implies_true, not_true_eq_false, not_false_eq_true, and_self, Int.toNat_natCast, Nat.reduceAdd, Nat.reduceLeDiff, Nat.reduceLT, forall_eq', Option.some.injEq, zarR, zarI, zarL, zle, zq0, zq1, zq2, zq3, zq4, zq5, zq6, zq8, zq9, zq10, zq20, zq7, zq12, zq24, zq40, zq41, zq48, zq100, zq120, zq123, zq480, zq492, zq700, zq729, zq2187, zq2916, zq8748, ne_eq, Int.reduceEq, Int.reduceLT, Int.reduceLE, Int.reduceToNat, Int.reduceMul, Int.reduceAdd, Int.reduceNeg, gk91 hg, gr91_5 hg, gr91_22 hg, gr91_23 hg, gr91_24 hg, gr91_25 hg, gr91_26 hg, gr91_27 hg, gr91_28 hg, gr91_29 hg, gr91_32 hg, gr91_33 hg, gr91_34 hg, gr91_35 hg, gr91_36 hg, gr91_37 hg, gr91_38 hg, gr91_39 hg, gr91_40 hg, gr91_41 hg, gr91_42 hg, gr91_44 hg, gr91_45 hg, gr91_46 hg, gr91_48 hg, gr91_49 hg, gr91_50 hg, gr91_51 hg, gr91_52 hg, or_true, true_or, if_true, if_false, false_and, and_false, false_or, or_false, m_isBaker hg hk, mF_z hk (show 91 < 121 by decide), mF_fr hk f1, mb, e, m_refused hg]
      exact K _ mEnd.1 mEnd.2.1 mEnd.2.2
theorem p_gain (hI : INV G h) : PR zL d 76 192 [zI x] G h := by
  have hg := hI.1
  have hk := INV_gK hI
  obtain ⟨mb, ms⟩ := INV_mF hI
  rcases rng_c 0 (h 18 9) x with ⟨e, e1, e2⟩ | ⟨e, e2⟩
  · obtain ⟨u, T, Y, hu, hu2, hw, kt, rt, i4, i5⟩ := INV_T hI (by omega)
    obtain ⟨b, rfl⟩ := Int.eq_ofNat_of_zero_le e1
    have u1 := hu.1
    have hY := i4.1.1
    have hYe := i4.1.2.1
    have hb3 := hw.1
    have hs4 := hw.2.1
    have hp3 := hw.2.2.1
    have na := nA_b hw
    have e9 := kt.1
    have hb : b < nB T := by omega
    have b3 : (b : Int) < 3 := by omega
    obtain ⟨od, nw, hod⟩ := I4_od i4
    have ok := I4_pOk i4
    have hod' : ∀ b, b < nB T → h 102 b = (od b : Int) ∧ od b < nP T := fun b q => ⟨(hod b (by omega)).2.2.1, (hod b (by omega)).1.2⟩
    have hnw' : ∀ b, b < nB T → h 103 b = (nw b : Int) ∧ nw b < nP T := fun b q => ⟨(hod b (by omega)).2.2.2.1, (hod b (by omega)).2.1.2⟩
    have kt0 : kT (zu h 0 11 0) 18 T := kT_frame kt (fun c i q1 q2 => zu_c (by omega))
    have bx := bX_le (wB T od nw (hdC T h Y) b) (nA T - 1)
    obtain ⟨a, ha⟩ : ∃ a, a = (bX (wB T od nw (hdC T h Y) b) (nA T - 1)).2 := ⟨_, rfl⟩
    have ha2 : a < nA T := by omega
    have q39 : ∀ s k, s < nS T → k < 3 → (zu h 0 11 0) 39 (Y * 12 + k * 4 + s) = hdC T h Y s k := fun s k q1 q2 => by
      rw [zu_c (by decide)]
      unfold hdC
      rw [if_pos ⟨q1, q2⟩]
    have cfrT : ∀ h2, gT T od nw b (zu h 0 11 0) h2 → cfr h h2 ∧ h2 0 11 = 0 := fun h2 q => by
      refine ⟨?_, by rw [q.1 _ _ (by omega) (by omega), zu_at]⟩
      intro c i z
      unfold core at z
      rw [q.1 c i (by omega) (by omega), zu, if_neg (by omega)]
    have openY : ∀ Q' : zQ, (∀ h2, gT T od nw b (zu h 0 11 0) h2 → Q' none G h2) → zRunD ztb zmt' (d + 15) 107 [zR (some 0)] G (zu h 0 11 0) Q' := by
      intro Q' KK
      rw [r107]
      simp only [e107_0, e107_1, zs0, zsI, zsL, zsR, ztl1, ztl0, zc0, zcI, zcL, zcR, true_and, and_true, true_implies, false_implies, implies_true, not_true_eq_false, not_false_eq_true, and_self, Int.toNat_natCast, Nat.reduceAdd, Nat.reduceLeDiff, Nat.reduceLT, forall_eq', Option.some.injEq, zarR, zarI, zarL, zle, zq0, zq1, zq2, zq3, zq4, zq5, zq6, zq8, zq9, zq10, zq20, zq7, zq12, zq24, zq40, zq41, zq48, zq100, zq120, zq123, zq480, zq492, zq700, zq729, zq2187, zq2916, zq8748, ne_eq, Int.reduceEq, Int.reduceLT, Int.reduceLE, Int.reduceToNat, Int.reduceMul, Int.reduceAdd, Int.reduceNeg, gk0 hg, gr0_0 hg, gr0_2 hg, gr0_3 hg, gr0_4 hg, gr0_5 hg, gr0_6 hg, gr0_7 hg, gr0_8 hg, gr0_9 hg, gr0_10 hg]
      apply c_open (d := d + 12) hg kt0 hw (Y := Y) (by rw [zu_c (by decide)]; exact hYe) hY (od := od) (nw := nw) (fun b hb => by rw [zu_c (by decide)]; exact (hod b (by omega)).1) (fun b hb => by rw [zu_c (by decide)]; exact (hod b (by omega)).2.1)
      intro h1 f1 o1 n1
      simp only [e107_4, e107_5, e107_8, zs0, zsI, zsL, zsR, ztl1, ztl0, zc0, zcI, zcL, zcR, true_and, and_true, true_implies, false_implies, implies_true, not_true_eq_false, not_false_eq_true, and_self, Int.toNat_natCast, Nat.reduceAdd, Nat.reduceLeDiff, Nat.reduceLT, forall_eq', Option.some.injEq, zarR, zarI, zarL, zle, zq0, zq1, zq2, zq3, zq4, zq5, zq6, zq8, zq9, zq10, zq20, zq7, zq12, zq24, zq40, zq41, zq48, zq100, zq120, zq123, zq480, zq492, zq700, zq729, zq2187, zq2916, zq8748, ne_eq, Int.reduceEq, Int.reduceLT, Int.reduceLE, Int.reduceToNat, Int.reduceMul, Int.reduceAdd, Int.reduceNeg, gk0 hg, gr0_0 hg, gr0_2 hg, gr0_3 hg, gr0_4 hg, gr0_5 hg, gr0_6 hg, gr0_7 hg, gr0_8 hg, gr0_9 hg, gr0_10 hg, gk16 hg, gr16_0 hg, gr16_1 hg, gr16_2 hg, gr16_3 hg, gr16_4 hg, gr16_5 hg, gr16_6 hg, gr16_7 hg, gr16_8 hg]
      apply c_asTold16 (d := d + 12) hg (kT_frame kt0 (fun c i q1 q2 => f1 c i (by omega) (by omega))) hw
      intro h2 f2 m1 m2
      simp only [e107_11, zs0, zsI, zsL, zsR, ztl1, ztl0, zc0, zcI, zcL, zcR, true_and, and_true, true_implies, false_implies, implies_true, not_true_eq_false, not_false_eq_true, and_self, Int.toNat_natCast, Nat.reduceAdd, Nat.reduceLeDiff, Nat.reduceLT, forall_eq', Option.some.injEq, zarR, zarI, zarL, zle, zq0, zq1, zq2, zq3, zq4, zq5, zq6, zq8, zq9, zq10, zq20, zq7, zq12, zq24, zq40, zq41, zq48, zq100, zq120, zq123, zq480, zq492, zq700, zq729, zq2187, zq2916, zq8748, ne_eq, Int.reduceEq, Int.reduceLT, Int.reduceLE, Int.reduceToNat, Int.reduceMul, Int.reduceAdd, Int.reduceNeg]
      apply KK h2
      refine ⟨fun c i q1 q2 => by rw [f2 c i (by omega) (by omega), f1 c i (by omega) (by omega)], fun t q1 _ => by rw [f2 _ _ (by omega) (by omega)]; exact o1 t q1, fun t q1 _ => by rw [f2 _ _ (by omega) (by omega)]; exact n1 t q1, m1, m2⟩
    refine PR_q (z := eB T od nw (hdC T h Y) b (aOld T a) (aNw T a) - eB T od nw (hdC T h Y) b (od b) (nw b)) (tr := 0) hI (by decide) ?_ ?_
    · intro Q K
      rw [r76]
      simp only [e76_0, e76_1, e76_2, e76_3, e76_6, e76_9, e76_10, e76_13, e76_14, e76_17, e76_18, e76_21, e76_24, e76_27, e76_28, e76_29, zs0, zsI, zsL, zsR, ztl1, ztl0, zc0, zcI, zcL, zcR, true_and, and_true, true_implies, false_implies, implies_true, not_true_eq_false, not_false_eq_true, and_self, Int.toNat_natCast, Nat.reduceAdd, Nat.reduceLeDiff, Nat.reduceLT, forall_eq', Option.some.injEq, zarR, zarI, zarL, zle, zq0, zq1, zq2, zq3, zq4, zq5, zq6, zq8, zq9, zq10, zq20, zq7, zq12, zq24, zq40, zq41, zq48, zq100, zq120, zq123, zq480, zq492, zq700, zq729, zq2187, zq2916, zq8748, ne_eq, Int.reduceEq, Int.reduceLT, Int.reduceLE, Int.reduceToNat, Int.reduceMul, Int.reduceAdd, Int.reduceNeg, gk0 hg, gr0_0 hg, gr0_2 hg, gr0_3 hg, gr0_4 hg, gr0_5 hg, gr0_6 hg, gr0_7 hg, gr0_8 hg, gr0_9 hg, gr0_10 hg, f_isBaker hg, e, zu_at]
      apply openY
      intro h1 g1
      have fc := fun Q' => f_counter (d := d + 14) (Q := Q') (h := h1) hg (Y := Y) (b := b) (by rw [g1.1 _ _ (by omega) (by omega), zu_c (by decide)]; exact hYe) hY (by omega)
      have i1 : ((Y * 3 + b : Nat) : Int) < 123 := by omega
      have e40 : h1 40 (Y * 3 + b) = (od b : Int) := by rw [g1.1 _ _ (by omega) (by omega), zu_c (by decide)]; exact (hod b (by omega)).1.1
      have e41 : h1 41 (Y * 3 + b) = (nw b : Int) := by rw [g1.1 _ _ (by omega) (by omega), zu_c (by decide)]; exact (hod b (by omega)).2.1.1
      have ob := (hod b (by omega)).1.2
      have nb := (hod b (by omega)).2.1.2
      have on := aOf_on hw ob nb (hod b (by omega)).2.2.2.2
      have ao := fun Q' => c_actOf16 (d := d + 14) (Q := Q') (h := h1) (T := T) (o := od b) (n := nw b) hg (kT_frame kt0 (fun c i q1 q2 => g1.1 c i (by omega) (by omega))) (by omega) (by omega) (by omega)
      simp only [e76_32, e76_33, e76_36, e76_37, e76_40, e76_41, e76_42, e76_43, e76_44, e76_47, e76_48, e76_51, e76_54, e76_55, e76_56, e76_57, e76_60, e76_63, e76_64, e76_65, e76_68, zs0, zsI, zsL, zsR, ztl1, ztl0, zc0, zcI, zcL, zcR, true_and, and_true, true_implies, false_implies, implies_true, not_true_eq_false, not_false_eq_true, and_self, Int.toNat_natCast, Nat.reduceAdd, Nat.reduceLeDiff, Nat.reduceLT, forall_eq', Option.some.injEq, zarR, zarI, zarL, zle, zq0, zq1, zq2, zq3, zq4, zq5, zq6, zq8, zq9, zq10, zq20, zq7, zq12, zq24, zq40, zq41, zq48, zq100, zq120, zq123, zq480, zq492, zq700, zq729, zq2187, zq2916, zq8748, ne_eq, Int.reduceEq, Int.reduceLT, Int.reduceLE, Int.reduceToNat, Int.reduceMul, Int.reduceAdd, Int.reduceNeg, gk0 hg, gr0_0 hg, gr0_2 hg, gr0_3 hg, gr0_4 hg, gr0_5 hg, gr0_6 hg, gr0_7 hg, gr0_8 hg, gr0_9 hg, gr0_10 hg, gk18 hg, gr18_0 hg, gr18_1 hg, gr18_2 hg, gr18_3 hg, gr18_4 hg, gr18_5 hg, gr18_6 hg, gr18_7 hg, gr18_8 hg, gk38 hg, gr38_1 hg, gr38_2 hg, gr38_3 hg, gr38_4 hg, gr38_5 hg, gr38_6 hg, gk40 hg, gl40 hg, gk41 hg, gl41 hg, fc, i1, e40, e41, ao]
      apply gT_by (d := d + 10) (hd := hdC T h Y) (Y := Y) (B := 30100 * (Y : Int) + 29997) hg kt0 hw (by rw [zu_c (by decide)]; exact hYe) hY ok.1 (by omega) ok.2.2 q39 hb g1 on.2.2
      intro h2 g2
      rw [on.1, on.2.1]
      simp only [e76_71, e76_72, e76_73, e76_74, e76_75, e76_76, zs0, zsI, zsL, zsR, ztl1, ztl0, zc0, zcI, zcL, zcR, true_and, and_true, true_implies, false_implies, implies_true, not_true_eq_false, not_false_eq_true, and_self, Int.toNat_natCast, Nat.reduceAdd, Nat.reduceLeDiff, Nat.reduceLT, forall_eq', Option.some.injEq, zarR, zarI, zarL, zle, zq0, zq1, zq2, zq3, zq4, zq5, zq6, zq8, zq9, zq10, zq20, zq7, zq12, zq24, zq40, zq41, zq48, zq100, zq120, zq123, zq480, zq492, zq700, zq729, zq2187, zq2916, zq8748, ne_eq, Int.reduceEq, Int.reduceLT, Int.reduceLE, Int.reduceToNat, Int.reduceMul, Int.reduceAdd, Int.reduceNeg, gk0 hg, gr0_0 hg, gr0_2 hg, gr0_3 hg, gr0_4 hg, gr0_5 hg, gr0_6 hg, gr0_7 hg, gr0_8 hg, gr0_9 hg, gr0_10 hg]
      apply c_bestAct (d := d + 9) (hd := hdC T h Y) (Y := Y) (B := 30100 * (Y : Int) + 29997) hg kt0 hw (by rw [zu_c (by decide)]; exact hYe) hY ok.1 (by omega) ok.2.2 q39 hb g2
      intro h3 g3
      rw [← ha]
      simp only [e76_79, zs0, zsI, zsL, zsR, ztl1, ztl0, zc0, zcI, zcL, zcR, true_and, and_true, true_implies, false_implies, implies_true, not_true_eq_false, not_false_eq_true, and_self, Int.toNat_natCast, Nat.reduceAdd, Nat.reduceLeDiff, Nat.reduceLT, forall_eq', Option.some.injEq, zarR, zarI, zarL, zle, zq0, zq1, zq2, zq3, zq4, zq5, zq6, zq8, zq9, zq10, zq20, zq7, zq12, zq24, zq40, zq41, zq48, zq100, zq120, zq123, zq480, zq492, zq700, zq729, zq2187, zq2916, zq8748, ne_eq, Int.reduceEq, Int.reduceLT, Int.reduceLE, Int.reduceToNat, Int.reduceMul, Int.reduceAdd, Int.reduceNeg, gk0 hg, gr0_0 hg, gr0_2 hg, gr0_3 hg, gr0_4 hg, gr0_5 hg, gr0_6 hg, gr0_7 hg, gr0_8 hg, gr0_9 hg, gr0_10 hg]
      apply gT_by (d := d + 10) (hd := hdC T h Y) (Y := Y) (B := 30100 * (Y : Int) + 29997) hg kt0 hw (by rw [zu_c (by decide)]; exact hYe) hY ok.1 (by omega) ok.2.2 q39 hb g3 ha2
      intro h4 g4
      have p1 := eB_b (od := od) (nw := nw) (b := b) (hd := hdC T h Y) hw ok.1 (by omega) (aOld T a) (aNw T a)
      have p2 := eB_b (od := od) (nw := nw) (b := b) (hd := hdC T h Y) hw ok.1 (by omega) (od b) (nw b)
      simp only [e76_82, e76_83, e76_84, zs0, zsI, zsL, zsR, ztl1, ztl0, zc0, zcI, zcL, zcR, true_and, and_true, true_implies, false_implies, implies_true, not_true_eq_false, not_false_eq_true, and_self, Int.toNat_natCast, Nat.reduceAdd, Nat.reduceLeDiff, Nat.reduceLT, forall_eq', Option.some.injEq, zarR, zarI, zarL, zle, zq0, zq1, zq2, zq3, zq4, zq5, zq6, zq8, zq9, zq10, zq20, zq7, zq12, zq24, zq40, zq41, zq48, zq100, zq120, zq123, zq480, zq492, zq700, zq729, zq2187, zq2916, zq8748, ne_eq, Int.reduceEq, Int.reduceLT, Int.reduceLE, Int.reduceToNat, Int.reduceMul, Int.reduceAdd, Int.reduceNeg]
      rw [wl_id (by omega)]
      exact K h4 (cfrT h4 g4).1 (cfrT h4 g4).2
    · intro h1 f1 Q K
      have fz : ∀ c i, 91 ≤ c → ¬ (c = 91 ∧ i = 0) → (zu h1 91 0 0) c i = h c i := fun c i q q2 => by rw [zu, if_neg q2, f1 c i (Or.inl q)]
      have rt0 : rT (zu h1 91 0 0) u T := rT_frame rt (fun c i q => fz c i (by omega) (by omega))
      have mfrG : ∀ g h2 : zM, (∀ c i, ¬ (c = 91 ∧ 16 ≤ i ∧ i ≤ 21) → ¬ c = 93 → ¬ c = 100 → g c i = (zu h1 91 0 0) c i) → gM g h2 → mfr h1 (zu (zu h2 91 1 0) 91 2 (-1)) := by
        intro g h2 q1 q2 c i z
        unfold core at z
        rw [zu, if_neg (by omega), zu, if_neg (by omega), q2 c i (by omega), q1 c i (by omega) (by omega) (by omega), zu, if_neg (by omega)]
      rw [r192]
      simp only [e192_0, e192_1, e192_2, e192_5, e192_6, e192_7, e192_10, e192_13, e192_14, e192_15, e192_18, e192_19, e192_20, e192_21, zs0, zsI, zsL, zsR, ztl1, ztl0, zc0, zcI, zcL, zcR, true_and, and_true, true_implies, false_implies, implies_true, not_true_eq_false, not_false_eq_true, and_self, Int.toNat_natCast, Nat.reduceAdd, Nat.reduceLeDiff, Nat.reduceLT, forall_eq', Option.some.injEq, zarR, zarI, zarL, zle, zq0, zq1, zq2, zq3, zq4, zq5, zq6, zq8, zq9, zq10, zq20, zq7, zq12, zq24, zq40, zq41, zq48, zq100, zq120, zq123, zq480, zq492, zq700, zq729, zq2187, zq2916, zq8748, ne_eq, Int.reduceEq, Int.reduceLT, Int.reduceLE, Int.reduceToNat, Int.reduceMul, Int.reduceAdd, Int.reduceNeg, gk91 hg, gr91_5 hg, gr91_22 hg, gr91_23 hg, gr91_24 hg, gr91_25 hg, gr91_26 hg, gr91_27 hg, gr91_28 hg, gr91_29 hg, gr91_32 hg, gr91_33 hg, gr91_34 hg, gr91_35 hg, gr91_36 hg, gr91_37 hg, gr91_38 hg, gr91_39 hg, gr91_40 hg, gr91_41 hg, gr91_42 hg, gr91_44 hg, gr91_45 hg, gr91_46 hg, gr91_48 hg, gr91_49 hg, gr91_50 hg, gr91_51 hg, gr91_52 hg, m_isBaker hg hk, mF_z hk (show 91 < 121 by decide), mF_fr hk f1, mb, e]
      apply m_bestAct (d := d + 6) (od := od) (nw := nw) (hd := hdC T h Y) (B := 30100 * (Y : Int) + 29997) hg hu rt0 hw (fun b hb => by rw [fz _ _ (by omega) (by omega)]; exact hod' b hb) (fun b hb => by rw [fz _ _ (by omega) (by omega)]; exact hnw' b hb) ok.1 (by omega) ok.2.2 (hd_101 hw i4 (fun i => fz _ _ (by omega) (by omega))) hb
      intro g h2 fg Vg g19 g100 q2
      rw [← ha]
      have V2 : ∀ h3, gM g h3 → rV h3 u T := fun h3 q => rV_frame Vg (fun c i q1 => q c i (by omega)) (fun i => q _ _ (by omega)) (fun i _ _ => q _ _ (by omega))
      have mo := fun h3 q Q' => m_old (d := d + 14) (Q := Q') (h := h3) (a := a) hg hu (V2 h3 q) hw (by omega)
      have mn := fun h3 q Q' => m_new (d := d + 14) (Q := Q') (h := h3) (a := a) hg hu (V2 h3 q) hw
      have mo2 := mo h2 q2
      have mn2 := mn h2 q2
      have ob := (hod b (by omega)).1.2
      have nb := (hod b (by omega)).2.1.2
      have me : ∀ (h3 : zM) (o n : Nat) (Q' : zQ), gM g h3 → o < nP T → n < nP T → (∀ h4 : zM, gM g h4 → Q' (some (zI (eB T od nw (hdC T h Y) b o n))) G h4) → zRunD ztb zmt' (d + 15) 190 [zR (some 91), zI (b : Int), zI (o : Int), zI (n : Int)] G h3 Q' := by
        intro h3 o n Q' q ho hn KK
        apply m_earnsBy (d := d + 7) (od := od) (nw := nw) (hd := hdC T h Y) (B := 30100 * (Y : Int) + 29997) hg hu (V2 h3 q) (rT_frame rt0 (fun c i q1 => by rw [q c i (by omega), fg c i (by omega) (by omega) (by omega)])) hw (by rw [q _ _ (by omega)]; exact g19) (fun s hs => by rw [q _ _ (by omega)]; exact g100 s hs) (fun b hb => by rw [q _ _ (by omega), fg _ _ (by omega) (by omega) (by omega), fz _ _ (by omega) (by omega)]; exact hod' b hb) (fun b hb => by rw [q _ _ (by omega), fg _ _ (by omega) (by omega) (by omega), fz _ _ (by omega) (by omega)]; exact hnw' b hb) ok.1 (by omega) ok.2.2 (fun s k q1 q2 => by rw [q _ _ (by omega), fg _ _ (by omega) (by omega) (by omega)]; exact hd_101 (h' := zu h1 91 0 0) hw i4 (fun i => fz _ _ (by omega) (by omega)) s k q1 q2) hb ho hn
        intro h4 f
        exact KK h4 (fun c i z => by rw [f c i z, q c i z])
      simp only [e192_24, e192_25, e192_26, e192_27, e192_28, e192_29, e192_32, e192_33, e192_34, e192_37, zs0, zsI, zsL, zsR, ztl1, ztl0, zc0, zcI, zcL, zcR, true_and, and_true, true_implies, false_implies, implies_true, not_true_eq_false, not_false_eq_true, and_self, Int.toNat_natCast, Nat.reduceAdd, Nat.reduceLeDiff, Nat.reduceLT, forall_eq', Option.some.injEq, zarR, zarI, zarL, zle, zq0, zq1, zq2, zq3, zq4, zq5, zq6, zq8, zq9, zq10, zq20, zq7, zq12, zq24, zq40, zq41, zq48, zq100, zq120, zq123, zq480, zq492, zq700, zq729, zq2187, zq2916, zq8748, ne_eq, Int.reduceEq, Int.reduceLT, Int.reduceLE, Int.reduceToNat, Int.reduceMul, Int.reduceAdd, Int.reduceNeg, gk91 hg, gr91_5 hg, gr91_22 hg, gr91_23 hg, gr91_24 hg, gr91_25 hg, gr91_26 hg, gr91_27 hg, gr91_28 hg, gr91_29 hg, gr91_32 hg, gr91_33 hg, gr91_34 hg, gr91_35 hg, gr91_36 hg, gr91_37 hg, gr91_38 hg, gr91_39 hg, gr91_40 hg, gr91_41 hg, gr91_42 hg, gr91_44 hg, gr91_45 hg, gr91_46 hg, gr91_48 hg, gr91_49 hg, gr91_50 hg, gr91_51 hg, gr91_52 hg, mo2, mn2]
      apply me h2 _ _ _ q2 (aOld_b hw ha2) (aNw_b hw ha2)
      intro h4 q4
      have e102 : h4 102 b = (od b : Int) := by rw [q4 _ _ (by omega), fg _ _ (by omega) (by omega) (by omega), fz _ _ (by omega) (by omega)]; exact (hod' b hb).1
      have e103 : h4 103 b = (nw b : Int) := by rw [q4 _ _ (by omega), fg _ _ (by omega) (by omega) (by omega), fz _ _ (by omega) (by omega)]; exact (hnw' b hb).1
      simp only [e192_40, e192_41, e192_42, e192_43, e192_44, e192_45, e192_46, e192_47, e192_50, e192_51, e192_52, e192_53, e192_56, e192_57, e192_58, zs0, zsI, zsL, zsR, ztl1, ztl0, zc0, zcI, zcL, zcR, true_and, and_true, true_implies, false_implies, implies_true, not_true_eq_false, not_false_eq_true, and_self, Int.toNat_natCast, Nat.reduceAdd, Nat.reduceLeDiff, Nat.reduceLT, forall_eq', Option.some.injEq, zarR, zarI, zarL, zle, zq0, zq1, zq2, zq3, zq4, zq5, zq6, zq8, zq9, zq10, zq20, zq7, zq12, zq24, zq40, zq41, zq48, zq100, zq120, zq123, zq480, zq492, zq700, zq729, zq2187, zq2916, zq8748, ne_eq, Int.reduceEq, Int.reduceLT, Int.reduceLE, Int.reduceToNat, Int.reduceMul, Int.reduceAdd, Int.reduceNeg, gk91 hg, gr91_5 hg, gr91_22 hg, gr91_23 hg, gr91_24 hg, gr91_25 hg, gr91_26 hg, gr91_27 hg, gr91_28 hg, gr91_29 hg, gr91_32 hg, gr91_33 hg, gr91_34 hg, gr91_35 hg, gr91_36 hg, gr91_37 hg, gr91_38 hg, gr91_39 hg, gr91_40 hg, gr91_41 hg, gr91_42 hg, gr91_44 hg, gr91_45 hg, gr91_46 hg, gr91_48 hg, gr91_49 hg, gr91_50 hg, gr91_51 hg, gr91_52 hg, gk102 hg, gl102 hg, gk103 hg, gl103 hg, b3, e102, e103]
      apply me h4 _ _ _ q4 ob nb
      intro h5 q5
      have p1 := eB_b (od := od) (nw := nw) (b := b) (hd := hdC T h Y) hw ok.1 (by omega) (aOld T a) (aNw T a)
      have p2 := eB_b (od := od) (nw := nw) (b := b) (hd := hdC T h Y) hw ok.1 (by omega) (od b) (nw b)
      simp only [e192_61, e192_62, e192_63, e192_66, zs0, zsI, zsL, zsR, ztl1, ztl0, zc0, zcI, zcL, zcR, true_and, and_true, true_implies, false_implies, implies_true, not_true_eq_false, not_false_eq_true, and_self, Int.toNat_natCast, Nat.reduceAdd, Nat.reduceLeDiff, Nat.reduceLT, forall_eq', Option.some.injEq, zarR, zarI, zarL, zle, zq0, zq1, zq2, zq3, zq4, zq5, zq6, zq8, zq9, zq10, zq20, zq7, zq12, zq24, zq40, zq41, zq48, zq100, zq120, zq123, zq480, zq492, zq700, zq729, zq2187, zq2916, zq8748, ne_eq, Int.reduceEq, Int.reduceLT, Int.reduceLE, Int.reduceToNat, Int.reduceMul, Int.reduceAdd, Int.reduceNeg, gk91 hg, gr91_5 hg, gr91_22 hg, gr91_23 hg, gr91_24 hg, gr91_25 hg, gr91_26 hg, gr91_27 hg, gr91_28 hg, gr91_29 hg, gr91_32 hg, gr91_33 hg, gr91_34 hg, gr91_35 hg, gr91_36 hg, gr91_37 hg, gr91_38 hg, gr91_39 hg, gr91_40 hg, gr91_41 hg, gr91_42 hg, gr91_44 hg, gr91_45 hg, gr91_46 hg, gr91_48 hg, gr91_49 hg, gr91_50 hg, gr91_51 hg, gr91_52 hg, m_told hg]
      rw [wl_id (by omega)]
      exact K _ (mfrG g h5 fg q5) (by rw [zu_i (by decide), zu_at]) zu_at
  · refine PR_q (z := -9223372036854775808) (tr := 1) hI (by decide) ?_ ?_
    · intro Q K
      rw [r76]
      simp only [e76_0, e76_1, e76_2, e76_3, e76_6, e76_9, e76_10, e76_13, e76_14, e76_17, e76_18, e76_21, e76_24, e76_27, e76_28, e76_29, e76_32, e76_33, e76_36, e76_37, e76_40, e76_41, e76_42, e76_43, e76_44, e76_47, e76_48, e76_51, e76_54, e76_55, e76_56, e76_57, e76_60, e76_63, e76_64, e76_65, e76_68, e76_71, e76_72, e76_73, e76_74, e76_75, e76_76, e76_79, e76_82, e76_83, e76_84, zs0, zsI, zsL, zsR, ztl1, ztl0, zc0, zcI, zcL, zcR, true_and, and_true, true_implies, false_implies, implies_true, not_true_eq_false, not_false_eq_true, and_self, Int.toNat_natCast, Nat.reduceAdd, Nat.reduceLeDiff, Nat.reduceLT, forall_eq', Option.some.injEq, zarR, zarI, zarL, zle, zq0, zq1, zq2, zq3, zq4, zq5, zq6, zq8, zq9, zq10, zq20, zq7, zq12, zq24, zq40, zq41, zq48, zq100, zq120, zq123, zq480, zq492, zq700, zq729, zq2187, zq2916, zq8748, ne_eq, Int.reduceEq, Int.reduceLT, Int.reduceLE, Int.reduceToNat, Int.reduceMul, Int.reduceAdd, Int.reduceNeg, gk0 hg, gr0_0 hg, gr0_2 hg, gr0_3 hg, gr0_4 hg, gr0_5 hg, gr0_6 hg, gr0_7 hg, gr0_8 hg, gr0_9 hg, gr0_10 hg, or_true, true_or, if_true, if_false, false_and, and_false, false_or, or_false, f_isBaker hg, e, zu_at]
      exact K _ cfr.z zu_at
    · intro h1 f1 Q K
      rw [r192]
      simp only [e192_0, e192_1, e192_2, e192_5, e192_6, e192_7, e192_10, e192_13, e192_14, e192_15, e192_18, e192_19, e192_20, e192_21, e192_24, e192_25, e192_26, e192_27, e192_28, e192_29, e192_32, e192_33, e192_34, e192_37, e192_40, e192_41, e192_42, e192_43, e192_44, e192_45, e192_46, e192_47, e192_50, e192_51, e192_52, e192_53, e192_56, e192_57, e192_58, e192_61, e192_62, e192_63, e192_66, zs0, zsI, zsL, zsR, ztl1, ztl0, zc0, zcI, zcL, zcR, true_and, and_true, true_implies, false_implies, implies_true, not_true_eq_false, not_false_eq_true, and_self, Int.toNat_natCast, Nat.reduceAdd, Nat.reduceLeDiff, Nat.reduceLT, forall_eq', Option.some.injEq, zarR, zarI, zarL, zle, zq0, zq1, zq2, zq3, zq4, zq5, zq6, zq8, zq9, zq10, zq20, zq7, zq12, zq24, zq40, zq41, zq48, zq100, zq120, zq123, zq480, zq492, zq700, zq729, zq2187, zq2916, zq8748, ne_eq, Int.reduceEq, Int.reduceLT, Int.reduceLE, Int.reduceToNat, Int.reduceMul, Int.reduceAdd, Int.reduceNeg, gk91 hg, gr91_5 hg, gr91_22 hg, gr91_23 hg, gr91_24 hg, gr91_25 hg, gr91_26 hg, gr91_27 hg, gr91_28 hg, gr91_29 hg, gr91_32 hg, gr91_33 hg, gr91_34 hg, gr91_35 hg, gr91_36 hg, gr91_37 hg, gr91_38 hg, gr91_39 hg, gr91_40 hg, gr91_41 hg, gr91_42 hg, gr91_44 hg, gr91_45 hg, gr91_46 hg, gr91_48 hg, gr91_49 hg, gr91_50 hg, gr91_51 hg, gr91_52 hg, or_true, true_or, if_true, if_false, false_and, and_false, false_or, or_false, m_isBaker hg hk, mF_z hk (show 91 < 121 by decide), mF_fr hk f1, mb, e, m_lost hg]
      exact K _ mEnd.1 mEnd.2.1 mEnd.2.2
end GB2
