theorem zcp_s {h : zM} {a b i : Nat} : zu (zcp h a 0 b 0 i) b i (h a i) = zcp h a 0 b 0 (i + 1) := by
  funext c k
  unfold zu zcp
  by_cases h1 : c = b
  · by_cases h2 : k = i
    · subst h2
      rw [if_pos ⟨h1, rfl⟩, if_pos ⟨h1, by omega, by omega⟩, Nat.sub_zero, Nat.zero_add]
    · rw [if_neg (fun q => h2 q.2)]
      by_cases h3 : k < i
      · rw [if_pos ⟨h1, by omega, by omega⟩, if_pos ⟨h1, by omega, by omega⟩]
      · rw [if_neg (by omega), if_neg (by omega)]
  · rw [if_neg (fun q => h1 q.1), if_neg (fun q => h1 q.1), if_neg (fun q => h1 q.1)]
theorem zcp_0 {h : zM} {a b : Nat} : zcp h a 0 b 0 0 = h := by
  funext c k
  unfold zcp
  rw [if_neg (by omega)]
/-- what the other side must hold for a rest over y years -/
def rPre (T : aTn) (ac : Nat → Nat) (nn nf : Nat → Int) (u y : Nat) (hd : Nat → Nat → Int) (h : zM) : Prop := rV h u T ∧ rA h T ac ∧ (∀ s b, s < nS T → b < nB T → h 110 (12 * y + (3 * s + b)) = hd s b) ∧ (∀ s, s < nS T → (0 ≤ h 100 s ∧ h 100 s ≤ 100) ∧ nf s = (if h 91 19 = -1 then (if tr T 7 s = 0 then 0 else h 100 s) else h 100 s * h 91 19 / 100) ∧ nn s = h 100 s - nf s) ∧ (-1 ≤ h 91 19 ∧ h 91 19 ≤ 100) ∧ (h 91 43 = 0 ∨ h 91 43 = 1)
def rFr (y : Nat) (h h' : zM) : Prop := ∀ c i, ¬ c = 94 → ¬ c = 95 → c < 96 ∨ 99 < c → c < 112 ∨ 114 < c → ¬ (c = 91 ∧ i = 43) → ¬ (c = 110 ∧ i < 12 * y) → ¬ (c = 111 ∧ i < (y + 1) * 2187) → h' c i = h c i
def rPost (T : aTn) (ac : Nat → Nat) (nn nf : Nat → Int) (y : Nat) (hd : Nat → Nat → Int) (h h' : zM) : Prop := rFr y h h' ∧ (∀ c i, c = 113 ∧ y ≤ 1 ∨ c = 114 ∧ y ≤ 2 → h' c i = h c i) ∧ (∀ a b, a < tg ac (nB T) → b < nB T → h' 111 ((y * 729 + a) * 3 + b) = rW T ac nn nf y hd a b) ∧ (h' 91 43 = 0 ∨ h' 91 43 = 1) ∧ (h' 91 43 = 1 ↔ h 91 43 = 1 ∨ rU T ac nn nf y hd)
def RPp (G : zG) (T : aTn) (ac : Nat → Nat) (nn nf : Nat → Int) (u d y : Nat) : Prop := ∀ (hd : Nat → Nat → Int) (B : Int) (h : zM) (Q : zQ), hB hd B → -100 ≤ B → B + 100 * y ≤ 2000000 → (nB T = 2 → ∀ s, hd s 2 = 0) → rPre T ac nn nf u y hd h → (∀ h', rPost T ac nn nf y hd h h' → Q (some (zI ((calm ac (nB T) (rW T ac nn nf y hd) : Nat) : Int))) G h') → zRunD ztb zmt' (d + (8 + y)) (181 + y) [zR (some 91)] G h Q
theorem rA_fr {h h' : zM} {T : aTn} {ac : Nat → Nat} (hA : rA h T ac) (h1 : h' 91 20 = h 91 20) (h2 : h' 91 21 = h 91 21) : rA h' T ac := by
  unfold rA at hA ⊢
  rw [h1, h2]
  exact hA
section RR
variable {d : Nat} {Q : zQ} {G : zG} {h : zM} {T : aTn} {ac : Nat → Nat} {nn nf : Nat → Int} {u m all : Nat} {hd : Nat → Nat → Int} {B : Int}
theorem m_year (hg : gS G) (hu : gU G u) (hw : wT T) (hc : acOk T ac) (hf : fB nn nf) (b1 : hB hd B) (b3 : B + 100 ≤ 2000000) (h20 : nB T = 2 → ∀ s, hd s 2 = 0) (hP : rPre T ac nn nf u (m + 1) hd h) (hm : m < 3) (hall : all < tg ac (nB T)) (K : ∀ h' : zM, (∀ c i, ¬ c = 94 → ¬ c = 95 → c < 96 ∨ 99 < c → ¬ (c = 110 ∧ 12 * m ≤ i ∧ i < 12 * m + 12) → h' c i = h c i) → (∀ b, b < 3 → h' 96 b = eE T ac nn nf hd all b) → (∀ s, s < nS T → h' 97 s = aPaid (aOwn T ac all) (aOth T ac all) (aN hd nn nf) (aTo T (aOwn T ac all) (aOth T ac all)) s 5) → (∀ s, s < nS T → h' 98 s = aLeft (aN hd nn nf) (aTo T (aOwn T ac all) (aOth T ac all)) s 5) → (∀ s b, s < nS T → b < 3 → h' 110 (12 * m + (3 * s + b)) = nx T ac nn nf hd all s b) → Q none G h') : zRunD ztb zmt' (d + 8) 181 [zR (some 91), zI ((m + 1 : Nat) : Int), zI all] G h Q := by
  rw [r181]
  have hB := hw.1
  have hS := hw.2.1
  have tb := tg_b hw hc
  obtain ⟨pV, pA, pH, pF, pE, pU⟩ := hP
  have hok := aN_ok b1 hf b3
  simp only [e181_0, e181_1, e181_2, e181_5, e181_6, e181_7, e181_10, e181_12, e181_13, e181_14, e181_16, e181_17, e181_18, e181_19, e181_20, e181_23, zs0, zsI, zsL, zsR, ztl1, ztl0, zc0, zcI, zcL, zcR, true_and, and_true, true_implies, false_implies, implies_true, not_true_eq_false, not_false_eq_true, and_self, Int.toNat_natCast, Nat.reduceAdd, Nat.reduceLeDiff, Nat.reduceLT, forall_eq', Option.some.injEq, zarR, zarI, zarL, zle, zq0, zq1, zq2, zq3, zq4, zq5, zq6, zq8, zq9, zq10, zq20, zq7, zq12, zq24, zq40, zq41, zq48, zq100, zq120, zq123, zq480, zq492, zq700, zq729, zq2187, zq2916, zq8748, ne_eq, Int.reduceEq, Int.reduceLT, Int.reduceLE, Int.reduceToNat, Int.reduceMul, Int.reduceAdd, Int.reduceNeg, gk91 hg, gr91_5 hg, gr91_22 hg, gr91_23 hg, gr91_24 hg, gr91_25 hg, gr91_26 hg, gr91_27 hg, gr91_28 hg, gr91_29 hg, gr91_32 hg, gr91_33 hg, gr91_34 hg, gr91_35 hg, gr91_36 hg, gr91_37 hg, gr91_38 hg, gr91_39 hg, gr91_40 hg, gr91_41 hg, gr91_42 hg, gr91_44 hg, gr91_45 hg, gr91_46 hg, gr91_48 hg, gr91_49 hg, gr91_50 hg, gr91_51 hg, gr91_52 hg]
  apply m_pricesBy (d := d + 3) hg hu pV hw hc pA (by omega)
  intro h1 f0 f1 f2
  have pV1 : rV h1 u T := rV_frame pV (fun c i q => f0 c i (by omega) (by omega)) (fun i => f0 _ _ (by decide) (by decide)) (fun i _ _ => f0 _ _ (by decide) (by decide))
  have wm : ((m + 1 : Nat) : Int) - 1 = (m : Int) := by omega
  simp only [e181_0, e181_1, e181_2, e181_5, e181_6, e181_7, e181_10, e181_12, e181_13, e181_14, e181_16, e181_17, e181_18, e181_19, e181_20, e181_23, zs0, zsI, zsL, zsR, ztl1, ztl0, zc0, zcI, zcL, zcR, true_and, and_true, true_implies, false_implies, implies_true, not_true_eq_false, not_false_eq_true, and_self, Int.toNat_natCast, Nat.reduceAdd, Nat.reduceLeDiff, Nat.reduceLT, forall_eq', Option.some.injEq, zarR, zarI, zarL, zle, zq0, zq1, zq2, zq3, zq4, zq5, zq6, zq8, zq9, zq10, zq20, zq7, zq12, zq24, zq40, zq41, zq48, zq100, zq120, zq123, zq480, zq492, zq700, zq729, zq2187, zq2916, zq8748, ne_eq, Int.reduceEq, Int.reduceLT, Int.reduceLE, Int.reduceToNat, Int.reduceMul, Int.reduceAdd, Int.reduceNeg, gk91 hg, gr91_5 hg, gr91_22 hg, gr91_23 hg, gr91_24 hg, gr91_25 hg, gr91_26 hg, gr91_27 hg, gr91_28 hg, gr91_29 hg, gr91_32 hg, gr91_33 hg, gr91_34 hg, gr91_35 hg, gr91_36 hg, gr91_37 hg, gr91_38 hg, gr91_39 hg, gr91_40 hg, gr91_41 hg, gr91_42 hg, gr91_44 hg, gr91_45 hg, gr91_46 hg, gr91_48 hg, gr91_49 hg, gr91_50 hg, gr91_51 hg, gr91_52 hg, wrN (z := 12 * ((m + 1 : Nat) : Int)) (m := 12 * (m + 1)) (by omega) (by omega), wm, wr_id (z := (m : Int)) (by omega), wrN (z := 12 * (m : Int)) (m := 12 * m) (by omega) (by omega)]
  refine m_goes (d := d) (T := T) (own := aOwn T ac all) (oth := aOth T ac all) (r := 110) (a := 12 * (m + 1)) (z := 12 * m) (n := aN hd nn nf) hg hu pV1 hw f1 f2 (aOwn_b hw ac all) (aOth_b hw ac all) hok (by decide) (gk110 hg) (by rw [gl110 hg]; omega) (by rw [gl110 hg]; omega) (by omega) (by omega) ?_ ?_ ?_ ?_ ?_ ?_ ?_
  · intro s k q1 q2
    rw [f0 _ _ (by omega) (by omega), pH s k q1 q2]
    unfold aN
    rw [if_pos (by omega)]
  · exact fun q s => h20 q s
  · intro s q
    rw [f0 91 19 (by decide) (by decide), f0 100 s (by decide) (by decide)]
    exact (pF s q).2.1
  · intro s q
    rw [f0 100 s (by decide) (by decide)]
    exact (pF s q).2.2
  · intro s q
    rw [f0 100 s (by decide) (by decide)]
    exact (pF s q).1
  · rw [f0 91 19 (by decide) (by decide)]
    exact pE
  · intro h2 n0 n1 n2 n3 n4
    simp only [e181_0, e181_1, e181_2, e181_5, e181_6, e181_7, e181_10, e181_12, e181_13, e181_14, e181_16, e181_17, e181_18, e181_19, e181_20, e181_23, zs0, zsI, zsL, zsR, ztl1, ztl0, zc0, zcI, zcL, zcR, true_and, and_true, true_implies, false_implies, implies_true, not_true_eq_false, not_false_eq_true, and_self, Int.toNat_natCast, Nat.reduceAdd, Nat.reduceLeDiff, Nat.reduceLT, forall_eq', Option.some.injEq, zarR, zarI, zarL, zle, zq0, zq1, zq2, zq3, zq4, zq5, zq6, zq8, zq9, zq10, zq20, zq7, zq12, zq24, zq40, zq41, zq48, zq100, zq120, zq123, zq480, zq492, zq700, zq729, zq2187, zq2916, zq8748, ne_eq, Int.reduceEq, Int.reduceLT, Int.reduceLE, Int.reduceToNat, Int.reduceMul, Int.reduceAdd, Int.reduceNeg]
    apply K
    · intro c i q1 q2 q3 q4
      rw [n0 c i (by omega) (by omega) (by omega) (by omega) (by omega)]
      exact f0 c i q1 q2
    · exact n3
    · exact n2
    · exact n1
    · intro s b q1 q2
      rw [n4 b s q2 (by omega), if_pos q1]
      unfold nx
      rw [if_pos q1]
theorem m_rest1 (hg : gS G) (hu : gU G u) (hw : wT T) (hc : acOk T ac) (hf : fB nn nf) : RPp G T ac nn nf u d 1 := by
  intro hd B h Q b1 b2 b3 h20 hP K
  rw [show d + (8 + 1) = d + 8 + 1 from rfl, r182]
  have hBk := hw.1
  have tb := tg_b hw hc
  have hP0 := hP
  obtain ⟨pV, pA, pH, pF, pE, pU⟩ := hP
  have hok := aN_ok b1 hf (by omega)
  have rw1 : ∀ a b, rW T ac nn nf 1 hd a b = eE T ac nn nf hd a b := fun a b => by rw [rW_s, if_pos rfl, Int.add_zero]
  have q0 : ∀ Q' : zQ, zRunD ztb zmt' (d + 8) 170 [zR (some 91)] G h Q' ↔ Q' (some (zI (tg ac (nB T) : Nat))) G h := fun Q' => m_allActs (d := d + 6) hg hu pV hw hc pA
  have hwb : ∀ a b, -100000000000 ≤ rW T ac nn nf 1 hd a b ∧ rW T ac nn nf 1 hd a b ≤ 100000000000 := by
    intro a b
    have := rW_b hw (ac := ac) hf 1 b1 (by omega) b2 a b
    omega
  have ebd : ∀ a b, -2147483648 ≤ eE T ac nn nf hd a b ∧ eE T ac nn nf hd a b ≤ 2147483647 := by
    intro a b
    have r4 : -(398000000 * (nS T : Int)) ≤ eE T ac nn nf hd a b ∧ eE T ac nn nf hd a b ≤ 398000000 * (nS T : Int) := aEarS_t (to := aTo T (aOwn T ac a) (aOth T ac a)) hw hok (aOwn_b hw ac a) (aOth_b hw ac a) b (nS T)
    have hS := hw.2.1
    omega
  have cpy : ∀ (j i : Nat) (all : Nat) (h1 : zM), i + j = 3 → (zE 182 (d + 8) Q 20 [some (zR (some 91)), some (zI (tg ac (nB T) : Nat)), some (zI all), some (zI i)] [] G (zcp h1 96 0 112 0 i) (0, 0) ↔ zE 182 (d + 8) Q 43 [some (zR (some 91)), some (zI (tg ac (nB T) : Nat)), some (zI all), some (zI 3)] [] G (zcp h1 96 0 112 0 3) (0, 0)) := by
    intro j
    induction j with
    | zero =>
      intro i all h1 hi
      have hi' : i = 3 := by omega
      subst hi'
      rw [e182_20]
      simp only [e182_0, e182_1, e182_4, e182_5, e182_6, e182_8, e182_9, e182_12, e182_13, e182_14, e182_15, e182_18, e182_19, e182_21, e182_22, e182_25, e182_26, e182_29, e182_30, e182_31, e182_34, e182_35, e182_36, e182_37, e182_40, e182_44, e182_45, e182_46, e182_47, e182_50, e182_53, e182_56, e182_57, e182_58, e182_61, zs0, zsI, zsL, zsR, ztl1, ztl0, zc0, zcI, zcL, zcR, true_and, and_true, true_implies, false_implies, implies_true, not_true_eq_false, not_false_eq_true, and_self, Int.toNat_natCast, Nat.reduceAdd, Nat.reduceLeDiff, Nat.reduceLT, forall_eq', Option.some.injEq, zarR, zarI, zarL, zle, zq0, zq1, zq2, zq3, zq4, zq5, zq6, zq8, zq9, zq10, zq20, zq7, zq12, zq24, zq40, zq41, zq48, zq100, zq120, zq123, zq480, zq492, zq700, zq729, zq2187, zq2916, zq8748, ne_eq, Int.reduceEq, Int.reduceLT, Int.reduceLE, Int.reduceToNat, Int.reduceMul, Int.reduceAdd, Int.reduceNeg, Int.le_refl]
    | succ j ih =>
      intro i all h1 hi
      have c1 : ¬ (3 : Int) ≤ i := by omega
      have c2 : (i : Int) < 3 := by omega
      rw [e182_20]
      simp only [e182_0, e182_1, e182_4, e182_5, e182_6, e182_8, e182_9, e182_12, e182_13, e182_14, e182_15, e182_18, e182_19, e182_21, e182_22, e182_25, e182_26, e182_29, e182_30, e182_31, e182_34, e182_35, e182_36, e182_37, e182_40, e182_44, e182_45, e182_46, e182_47, e182_50, e182_53, e182_56, e182_57, e182_58, e182_61, zs0, zsI, zsL, zsR, ztl1, ztl0, zc0, zcI, zcL, zcR, true_and, and_true, true_implies, false_implies, implies_true, not_true_eq_false, not_false_eq_true, and_self, Int.toNat_natCast, Nat.reduceAdd, Nat.reduceLeDiff, Nat.reduceLT, forall_eq', Option.some.injEq, zarR, zarI, zarL, zle, zq0, zq1, zq2, zq3, zq4, zq5, zq6, zq8, zq9, zq10, zq20, zq7, zq12, zq24, zq40, zq41, zq48, zq100, zq120, zq123, zq480, zq492, zq700, zq729, zq2187, zq2916, zq8748, ne_eq, Int.reduceEq, Int.reduceLT, Int.reduceLE, Int.reduceToNat, Int.reduceMul, Int.reduceAdd, Int.reduceNeg, gk91 hg, gr91_5 hg, gr91_22 hg, gr91_23 hg, gr91_24 hg, gr91_25 hg, gr91_26 hg, gr91_27 hg, gr91_28 hg, gr91_29 hg, gr91_32 hg, gr91_33 hg, gr91_34 hg, gr91_35 hg, gr91_36 hg, gr91_37 hg, gr91_38 hg, gr91_39 hg, gr91_40 hg, gr91_41 hg, gr91_42 hg, gr91_44 hg, gr91_45 hg, gr91_46 hg, gr91_48 hg, gr91_49 hg, gr91_50 hg, gr91_51 hg, gr91_52 hg, gk96 hg, gl96 hg, gk112 hg, gl112 hg, c1, c2, zcp_c (show ¬ 96 = 112 by decide), zcp_s, wr_s (show i < 2147483647 by omega)]
      exact ih (i + 1) all h1 (by omega)
  have lp : ∀ j all (h1 : zM) (l3 : Option zV), all + j = tg ac (nB T) → rFr 1 h h1 → (∀ c i, c = 113 ∨ c = 114 → h1 c i = h c i) → h1 91 43 = h 91 43 → (∀ a b, a < all → b < nB T → h1 111 ((1 * 729 + a) * 3 + b) = rW T ac nn nf 1 hd a b) → zE 182 (d + 8) Q 7 [some (zR (some 91)), some (zI (tg ac (nB T) : Nat)), some (zI all), l3] [] G h1 (0, 0) := by
    intro j
    induction j with
    | zero =>
      intro all h1 l3 hj f0 f9 fU f1
      have hj' : all = tg ac (nB T) := by omega
      subst hj'
      have pV1 : rV h1 u T := rV_frame pV (fun c i q => f0 c i (by omega) (by omega) (by omega) (by omega) (by omega) (by omega) (by omega)) (fun i => f0 _ _ (by decide) (by decide) (by omega) (by omega) (by omega) (by omega) (by omega)) (fun i q1 q2 => f0 _ _ (by decide) (by decide) (by omega) (by omega) (by omega) (by omega) (by omega))
      have pA1 : rA h1 T ac := rA_fr pA (f0 _ _ (by decide) (by decide) (by omega) (by omega) (by omega) (by omega) (by omega)) (f0 _ _ (by decide) (by decide) (by omega) (by omega) (by omega) (by omega) (by omega))
      rw [e182_7]
      simp only [e182_0, e182_1, e182_4, e182_5, e182_6, e182_8, e182_9, e182_12, e182_13, e182_14, e182_15, e182_18, e182_19, e182_21, e182_22, e182_25, e182_26, e182_29, e182_30, e182_31, e182_34, e182_35, e182_36, e182_37, e182_40, e182_43, e182_44, e182_45, e182_46, e182_47, e182_50, e182_53, e182_56, e182_57, e182_58, e182_61, zs0, zsI, zsL, zsR, ztl1, ztl0, zc0, zcI, zcL, zcR, true_and, and_true, true_implies, false_implies, implies_true, not_true_eq_false, not_false_eq_true, and_self, Int.toNat_natCast, Nat.reduceAdd, Nat.reduceLeDiff, Nat.reduceLT, forall_eq', Option.some.injEq, zarR, zarI, zarL, zle, zq0, zq1, zq2, zq3, zq4, zq5, zq6, zq8, zq9, zq10, zq20, zq7, zq12, zq24, zq40, zq41, zq48, zq100, zq120, zq123, zq480, zq492, zq700, zq729, zq2187, zq2916, zq8748, ne_eq, Int.reduceEq, Int.reduceLT, Int.reduceLE, Int.reduceToNat, Int.reduceMul, Int.reduceAdd, Int.reduceNeg, gk91 hg, gr91_5 hg, gr91_22 hg, gr91_23 hg, gr91_24 hg, gr91_25 hg, gr91_26 hg, gr91_27 hg, gr91_28 hg, gr91_29 hg, gr91_32 hg, gr91_33 hg, gr91_34 hg, gr91_35 hg, gr91_36 hg, gr91_37 hg, gr91_38 hg, gr91_39 hg, gr91_40 hg, gr91_41 hg, gr91_42 hg, gr91_44 hg, gr91_45 hg, gr91_46 hg, gr91_48 hg, gr91_49 hg, gr91_50 hg, gr91_51 hg, gr91_52 hg, Int.le_refl]
      have pk := m_picks (d := d + 3) (Q := fun v G' h' => zE 182 (d + 8) Q 61 [some (zR (some 91)), some (zI (tg ac (nB T) : Nat)), some (zI (tg ac (nB T) : Nat)), l3] (v.toList ++ []) G' h' (0, 0)) (y := 1) (w := rW T ac nn nf 1 hd) hg hu pV1 hw hc pA1 (by decide) f1 hwb (by rw [fU]; exact pU)
      apply pk
      intro h2 g0 g1 g2
      simp only [e182_0, e182_1, e182_4, e182_5, e182_6, e182_8, e182_9, e182_12, e182_13, e182_14, e182_15, e182_18, e182_19, e182_21, e182_22, e182_25, e182_26, e182_29, e182_30, e182_31, e182_34, e182_35, e182_36, e182_37, e182_40, e182_43, e182_44, e182_45, e182_46, e182_47, e182_50, e182_53, e182_56, e182_57, e182_58, e182_61, zs0, zsI, zsL, zsR, ztl1, ztl0, zc0, zcI, zcL, zcR, true_and, and_true, true_implies, false_implies, implies_true, not_true_eq_false, not_false_eq_true, and_self, Int.toNat_natCast, Nat.reduceAdd, Nat.reduceLeDiff, Nat.reduceLT, forall_eq', Option.some.injEq, zarR, zarI, zarL, zle, zq0, zq1, zq2, zq3, zq4, zq5, zq6, zq8, zq9, zq10, zq20, zq7, zq12, zq24, zq40, zq41, zq48, zq100, zq120, zq123, zq480, zq492, zq700, zq729, zq2187, zq2916, zq8748, ne_eq, Int.reduceEq, Int.reduceLT, Int.reduceLE, Int.reduceToNat, Int.reduceMul, Int.reduceAdd, Int.reduceNeg]
      apply K
      refine ⟨?_, ?_, ?_, g1, ?_⟩
      · intro c i q1 q2 q3 q4 q5 q6 q7
        rw [g0 c i q5]
        exact f0 c i q1 q2 q3 q4 q5 q6 q7
      · intro c i q
        rw [g0 c i (by omega)]
        exact f9 c i (by omega)
      · intro a b q1 q2
        rw [g0 _ _ (by omega)]
        exact f1 a b q1 q2
      · rw [g2, fU, rU]
        constructor
        · rintro (q | q)
          · exact Or.inl q
          · exact Or.inr (Or.inl q)
        · rintro (q | q | q)
          · exact Or.inl q
          · exact Or.inr q
          · exact absurd rfl q.1
    | succ j ih =>
      intro all h1 l3 hj f0 f9 fU f1
      have hP1 : rPre T ac nn nf u (0 + 1) hd h1 := by
        refine ⟨?_, ?_, ?_, ?_, ?_, ?_⟩
        · exact rV_frame pV (fun c i q => f0 c i (by omega) (by omega) (by omega) (by omega) (by omega) (by omega) (by omega)) (fun i => f0 _ _ (by decide) (by decide) (by omega) (by omega) (by omega) (by omega) (by omega)) (fun i q1 q2 => f0 _ _ (by decide) (by decide) (by omega) (by omega) (by omega) (by omega) (by omega))
        · exact rA_fr pA (f0 _ _ (by decide) (by decide) (by omega) (by omega) (by omega) (by omega) (by omega)) (f0 _ _ (by decide) (by decide) (by omega) (by omega) (by omega) (by omega) (by omega))
        · intro s b q1 q2
          rw [f0 _ _ (by decide) (by decide) (by omega) (by omega) (by omega) (by omega) (by omega)]
          exact pH s b q1 q2
        · intro s q
          rw [f0 100 s (by decide) (by decide) (by omega) (by omega) (by omega) (by omega) (by omega), f0 91 19 (by decide) (by decide) (by omega) (by omega) (by omega) (by omega) (by omega)]
          exact pF s q
        · rw [f0 91 19 (by decide) (by decide) (by omega) (by omega) (by omega) (by omega) (by omega)]
          exact pE
        · rw [fU]
          exact pU
      have c : ¬ ((tg ac (nB T) : Nat) : Int) ≤ all := by omega
      rw [e182_7]
      simp only [e182_0, e182_1, e182_4, e182_5, e182_6, e182_8, e182_9, e182_12, e182_13, e182_14, e182_15, e182_18, e182_19, e182_21, e182_22, e182_25, e182_26, e182_29, e182_30, e182_31, e182_34, e182_35, e182_36, e182_37, e182_40, e182_43, e182_44, e182_45, e182_46, e182_47, e182_50, e182_53, e182_56, e182_57, e182_58, e182_61, zs0, zsI, zsL, zsR, ztl1, ztl0, zc0, zcI, zcL, zcR, true_and, and_true, true_implies, false_implies, implies_true, not_true_eq_false, not_false_eq_true, and_self, Int.toNat_natCast, Nat.reduceAdd, Nat.reduceLeDiff, Nat.reduceLT, forall_eq', Option.some.injEq, zarR, zarI, zarL, zle, zq0, zq1, zq2, zq3, zq4, zq5, zq6, zq8, zq9, zq10, zq20, zq7, zq12, zq24, zq40, zq41, zq48, zq100, zq120, zq123, zq480, zq492, zq700, zq729, zq2187, zq2916, zq8748, ne_eq, Int.reduceEq, Int.reduceLT, Int.reduceLE, Int.reduceToNat, Int.reduceMul, Int.reduceAdd, Int.reduceNeg, gk91 hg, gr91_5 hg, gr91_22 hg, gr91_23 hg, gr91_24 hg, gr91_25 hg, gr91_26 hg, gr91_27 hg, gr91_28 hg, gr91_29 hg, gr91_32 hg, gr91_33 hg, gr91_34 hg, gr91_35 hg, gr91_36 hg, gr91_37 hg, gr91_38 hg, gr91_39 hg, gr91_40 hg, gr91_41 hg, gr91_42 hg, gr91_44 hg, gr91_45 hg, gr91_46 hg, gr91_48 hg, gr91_49 hg, gr91_50 hg, gr91_51 hg, gr91_52 hg, c]
      refine m_year (d := d) (m := 0) hg hu hw hc hf b1 (by omega) h20 hP1 (by decide) (by omega) ?_
      intro h2 g0 g1 g2 g3 g4
      have cp := cpy 3 0 all h2 (by omega)
      simp only [zcp_0, zq0] at cp
      simp only [e182_0, e182_1, e182_4, e182_5, e182_6, e182_8, e182_9, e182_12, e182_13, e182_14, e182_15, e182_18, e182_19, e182_21, e182_22, e182_25, e182_26, e182_29, e182_30, e182_31, e182_34, e182_35, e182_36, e182_37, e182_40, e182_43, e182_44, e182_45, e182_46, e182_47, e182_50, e182_53, e182_56, e182_57, e182_58, e182_61, zs0, zsI, zsL, zsR, ztl1, ztl0, zc0, zcI, zcL, zcR, true_and, and_true, true_implies, false_implies, implies_true, not_true_eq_false, not_false_eq_true, and_self, Int.toNat_natCast, Nat.reduceAdd, Nat.reduceLeDiff, Nat.reduceLT, forall_eq', Option.some.injEq, zarR, zarI, zarL, zle, zq0, zq1, zq2, zq3, zq4, zq5, zq6, zq8, zq9, zq10, zq20, zq7, zq12, zq24, zq40, zq41, zq48, zq100, zq120, zq123, zq480, zq492, zq700, zq729, zq2187, zq2916, zq8748, ne_eq, Int.reduceEq, Int.reduceLT, Int.reduceLE, Int.reduceToNat, Int.reduceMul, Int.reduceAdd, Int.reduceNeg]
      rw [cp]
      simp only [e182_0, e182_1, e182_4, e182_5, e182_6, e182_8, e182_9, e182_12, e182_13, e182_14, e182_15, e182_18, e182_19, e182_21, e182_22, e182_25, e182_26, e182_29, e182_30, e182_31, e182_34, e182_35, e182_36, e182_37, e182_40, e182_43, e182_44, e182_45, e182_46, e182_47, e182_50, e182_53, e182_56, e182_57, e182_58, e182_61, zs0, zsI, zsL, zsR, ztl1, ztl0, zc0, zcI, zcL, zcR, true_and, and_true, true_implies, false_implies, implies_true, not_true_eq_false, not_false_eq_true, and_self, Int.toNat_natCast, Nat.reduceAdd, Nat.reduceLeDiff, Nat.reduceLT, forall_eq', Option.some.injEq, zarR, zarI, zarL, zle, zq0, zq1, zq2, zq3, zq4, zq5, zq6, zq8, zq9, zq10, zq20, zq7, zq12, zq24, zq40, zq41, zq48, zq100, zq120, zq123, zq480, zq492, zq700, zq729, zq2187, zq2916, zq8748, ne_eq, Int.reduceEq, Int.reduceLT, Int.reduceLE, Int.reduceToNat, Int.reduceMul, Int.reduceAdd, Int.reduceNeg, gk91 hg, gr91_5 hg, gr91_22 hg, gr91_23 hg, gr91_24 hg, gr91_25 hg, gr91_26 hg, gr91_27 hg, gr91_28 hg, gr91_29 hg, gr91_32 hg, gr91_33 hg, gr91_34 hg, gr91_35 hg, gr91_36 hg, gr91_37 hg, gr91_38 hg, gr91_39 hg, gr91_40 hg, gr91_41 hg, gr91_42 hg, gr91_44 hg, gr91_45 hg, gr91_46 hg, gr91_48 hg, gr91_49 hg, gr91_50 hg, gr91_51 hg, gr91_52 hg]
      have e12 : ∀ b, b < 3 → zcp h2 96 0 112 0 3 112 b = eE T ac nn nf hd all b := by
        intro b q
        have := zcp_i (h := h2) (a := 96) (sp := 0) (b := 112) (dp := 0) (n := 3) (i := b) q
        rw [Nat.zero_add] at this
        rw [this]
        exact g1 b q
      have pV3 : rV (zcp h2 96 0 112 0 3) u T := rV_frame hP1.1 (fun c i q => by rw [zcp_c (by omega)]; exact g0 c i (by omega) (by omega) (by omega) (by omega)) (fun i => by rw [zcp_c (by decide)]; exact g0 _ _ (by decide) (by decide) (by omega) (by omega)) (fun i q1 q2 => by rw [zcp_c (by decide)]; exact g0 _ _ (by decide) (by decide) (by omega) (by omega))
      refine m_puts (d := d + 6) (m := 0) (tv := fun _ => 0) hg hu pV3 hw hc (by decide) (by omega) (Or.inl ⟨rfl, fun _ => rfl⟩) (fun _ => by decide) (fun b q => by rw [e12 b (by omega)]; exact ebd all b) ?_
      intro h3 p0 p1
      simp only [e182_0, e182_1, e182_4, e182_5, e182_6, e182_8, e182_9, e182_12, e182_13, e182_14, e182_15, e182_18, e182_19, e182_21, e182_22, e182_25, e182_26, e182_29, e182_30, e182_31, e182_34, e182_35, e182_36, e182_37, e182_40, e182_43, e182_44, e182_45, e182_46, e182_47, e182_50, e182_53, e182_56, e182_57, e182_58, e182_61, zs0, zsI, zsL, zsR, ztl1, ztl0, zc0, zcI, zcL, zcR, true_and, and_true, true_implies, false_implies, implies_true, not_true_eq_false, not_false_eq_true, and_self, Int.toNat_natCast, Nat.reduceAdd, Nat.reduceLeDiff, Nat.reduceLT, forall_eq', Option.some.injEq, zarR, zarI, zarL, zle, zq0, zq1, zq2, zq3, zq4, zq5, zq6, zq8, zq9, zq10, zq20, zq7, zq12, zq24, zq40, zq41, zq48, zq100, zq120, zq123, zq480, zq492, zq700, zq729, zq2187, zq2916, zq8748, ne_eq, Int.reduceEq, Int.reduceLT, Int.reduceLE, Int.reduceToNat, Int.reduceMul, Int.reduceAdd, Int.reduceNeg, wr_s (show all < 2147483647 by omega)]
      apply ih (all + 1) h3 _ (by omega)
      · intro c i q1 q2 q3 q4 q5 q6 q7
        rw [p0 c i (by omega), zcp_c (by omega), g0 c i q1 q2 q3 (by omega)]
        exact f0 c i q1 q2 q3 q4 q5 q6 q7
      · intro c i q
        rw [p0 c i (by omega), zcp_c (by omega), g0 c i (by omega) (by omega) (by omega) (by omega)]
        exact f9 c i q
      · rw [p0 _ _ (by omega), zcp_c (by omega), g0 _ _ (by omega) (by omega) (by omega) (by omega)]
        exact fU
      · intro a b q1 q2
        by_cases q3 : a = all
        · subst q3
          have p1' := p1 b q2
          rw [Int.mul_zero, Int.zero_ediv, Int.add_zero, e12 b (by omega)] at p1'
          rw [rw1]
          exact p1'
        · rw [p0 _ _ (by omega), zcp_c (by omega), g0 _ _ (by omega) (by omega) (by omega) (by omega)]
          exact f1 a b (by omega) q2
  simp only [e182_0, e182_1, e182_4, e182_5, e182_6, e182_8, e182_9, e182_12, e182_13, e182_14, e182_15, e182_18, e182_19, e182_21, e182_22, e182_25, e182_26, e182_29, e182_30, e182_31, e182_34, e182_35, e182_36, e182_37, e182_40, e182_43, e182_44, e182_45, e182_46, e182_47, e182_50, e182_53, e182_56, e182_57, e182_58, e182_61, zs0, zsI, zsL, zsR, ztl1, ztl0, zc0, zcI, zcL, zcR, true_and, and_true, true_implies, false_implies, implies_true, not_true_eq_false, not_false_eq_true, and_self, Int.toNat_natCast, Nat.reduceAdd, Nat.reduceLeDiff, Nat.reduceLT, forall_eq', Option.some.injEq, zarR, zarI, zarL, zle, zq0, zq1, zq2, zq3, zq4, zq5, zq6, zq8, zq9, zq10, zq20, zq7, zq12, zq24, zq40, zq41, zq48, zq100, zq120, zq123, zq480, zq492, zq700, zq729, zq2187, zq2916, zq8748, ne_eq, Int.reduceEq, Int.reduceLT, Int.reduceLE, Int.reduceToNat, Int.reduceMul, Int.reduceAdd, Int.reduceNeg, gk91 hg, gr91_5 hg, gr91_22 hg, gr91_23 hg, gr91_24 hg, gr91_25 hg, gr91_26 hg, gr91_27 hg, gr91_28 hg, gr91_29 hg, gr91_32 hg, gr91_33 hg, gr91_34 hg, gr91_35 hg, gr91_36 hg, gr91_37 hg, gr91_38 hg, gr91_39 hg, gr91_40 hg, gr91_41 hg, gr91_42 hg, gr91_44 hg, gr91_45 hg, gr91_46 hg, gr91_48 hg, gr91_49 hg, gr91_50 hg, gr91_51 hg, gr91_52 hg, q0]
  exact lp (tg ac (nB T)) 0 h _ (by omega) (fun _ _ _ _ _ _ _ _ _ => rfl) (fun _ _ _ => rfl) rfl (fun a b q => by omega)
theorem m_rest2 (hg : gS G) (hu : gU G u) (hw : wT T) (hc : acOk T ac) (hf : fB nn nf) : RPp G T ac nn nf u d 2 := by
  intro hd B h Q b1 b2 b3 h20 hP K
  rw [show d + (8 + 2) = d + 9 + 1 from rfl, r183]
  have hBk := hw.1
  have hSk := hw.2.1
  have tb := tg_b hw hc
  have hP0 := hP
  obtain ⟨pV, pA, pH, pF, pE, pU⟩ := hP
  have hok := aN_ok b1 hf (by omega)
  have q0 : ∀ Q' : zQ, zRunD ztb zmt' (d + 9) 170 [zR (some 91)] G h Q' ↔ Q' (some (zI (tg ac (nB T) : Nat))) G h := fun Q' => m_allActs (d := d + 7) hg hu pV hw hc pA
  have hwb : ∀ a b, -100000000000 ≤ rW T ac nn nf 2 hd a b ∧ rW T ac nn nf 2 hd a b ≤ 100000000000 := by
    intro a b
    have := rW_b hw (ac := ac) hf 2 b1 (by omega) b2 a b
    omega
  have ebd : ∀ a b, -2147483648 ≤ eE T ac nn nf hd a b ∧ eE T ac nn nf hd a b ≤ 2147483647 := by
    intro a b
    have r4 : -(398000000 * (nS T : Int)) ≤ eE T ac nn nf hd a b ∧ eE T ac nn nf hd a b ≤ 398000000 * (nS T : Int) := aEarS_t (to := aTo T (aOwn T ac a) (aOth T ac a)) hw hok (aOwn_b hw ac a) (aOth_b hw ac a) b (nS T)
    omega
  have cpy : ∀ (j i : Nat) (all : Nat) (h1 : zM) (l4 : Option zV), i + j = 3 → (zE 183 (d + 9) Q 20 [some (zR (some 91)), some (zI (tg ac (nB T) : Nat)), some (zI all), some (zI i), l4] [] G (zcp h1 96 0 113 0 i) (0, 0) ↔ zE 183 (d + 9) Q 43 [some (zR (some 91)), some (zI (tg ac (nB T) : Nat)), some (zI all), some (zI 3), l4] [] G (zcp h1 96 0 113 0 3) (0, 0)) := by
    intro j
    induction j with
    | zero =>
      intro i all h1 l4 hi
      have hi' : i = 3 := by omega
      subst hi'
      rw [e183_20]
      simp only [e183_0, e183_1, e183_4, e183_5, e183_6, e183_8, e183_9, e183_12, e183_13, e183_14, e183_15, e183_18, e183_19, e183_21, e183_22, e183_25, e183_26, e183_29, e183_30, e183_31, e183_34, e183_35, e183_36, e183_37, e183_40, e183_44, e183_47, e183_48, e183_49, e183_53, e183_54, e183_57, e183_58, e183_61, e183_63, e183_64, e183_67, e183_69, e183_70, e183_71, e183_74, e183_77, e183_78, e183_79, e183_80, e183_81, e183_84, e183_87, e183_90, e183_91, e183_92, e183_95, zs0, zsI, zsL, zsR, ztl1, ztl0, zc0, zcI, zcL, zcR, true_and, and_true, true_implies, false_implies, implies_true, not_true_eq_false, not_false_eq_true, and_self, Int.toNat_natCast, Nat.reduceAdd, Nat.reduceLeDiff, Nat.reduceLT, forall_eq', Option.some.injEq, zarR, zarI, zarL, zle, zq0, zq1, zq2, zq3, zq4, zq5, zq6, zq8, zq9, zq10, zq20, zq7, zq12, zq24, zq40, zq41, zq48, zq100, zq120, zq123, zq480, zq492, zq700, zq729, zq2187, zq2916, zq8748, ne_eq, Int.reduceEq, Int.reduceLT, Int.reduceLE, Int.reduceToNat, Int.reduceMul, Int.reduceAdd, Int.reduceNeg, Int.le_refl]
    | succ j ih =>
      intro i all h1 l4 hi
      have c1 : ¬ (3 : Int) ≤ i := by omega
      have c2 : (i : Int) < 3 := by omega
      rw [e183_20]
      simp only [e183_0, e183_1, e183_4, e183_5, e183_6, e183_8, e183_9, e183_12, e183_13, e183_14, e183_15, e183_18, e183_19, e183_21, e183_22, e183_25, e183_26, e183_29, e183_30, e183_31, e183_34, e183_35, e183_36, e183_37, e183_40, e183_44, e183_47, e183_48, e183_49, e183_53, e183_54, e183_57, e183_58, e183_61, e183_63, e183_64, e183_67, e183_69, e183_70, e183_71, e183_74, e183_77, e183_78, e183_79, e183_80, e183_81, e183_84, e183_87, e183_90, e183_91, e183_92, e183_95, zs0, zsI, zsL, zsR, ztl1, ztl0, zc0, zcI, zcL, zcR, true_and, and_true, true_implies, false_implies, implies_true, not_true_eq_false, not_false_eq_true, and_self, Int.toNat_natCast, Nat.reduceAdd, Nat.reduceLeDiff, Nat.reduceLT, forall_eq', Option.some.injEq, zarR, zarI, zarL, zle, zq0, zq1, zq2, zq3, zq4, zq5, zq6, zq8, zq9, zq10, zq20, zq7, zq12, zq24, zq40, zq41, zq48, zq100, zq120, zq123, zq480, zq492, zq700, zq729, zq2187, zq2916, zq8748, ne_eq, Int.reduceEq, Int.reduceLT, Int.reduceLE, Int.reduceToNat, Int.reduceMul, Int.reduceAdd, Int.reduceNeg, gk91 hg, gr91_5 hg, gr91_22 hg, gr91_23 hg, gr91_24 hg, gr91_25 hg, gr91_26 hg, gr91_27 hg, gr91_28 hg, gr91_29 hg, gr91_32 hg, gr91_33 hg, gr91_34 hg, gr91_35 hg, gr91_36 hg, gr91_37 hg, gr91_38 hg, gr91_39 hg, gr91_40 hg, gr91_41 hg, gr91_42 hg, gr91_44 hg, gr91_45 hg, gr91_46 hg, gr91_48 hg, gr91_49 hg, gr91_50 hg, gr91_51 hg, gr91_52 hg, gk96 hg, gl96 hg, gk113 hg, gl113 hg, c1, c2, zcp_c (show ¬ 96 = 113 by decide), zcp_s, wr_s (show i < 2147483647 by omega)]
      exact ih (i + 1) all h1 l4 (by omega)
  have cpy2 : ∀ (j i : Nat) (all : Nat) (h1 : zM) (l3 : Int), i + j = 3 → (zE 183 (d + 9) Q 51 [some (zR (some 91)), some (zI (tg ac (nB T) : Nat)), some (zI all), some (zI l3), some (zI i)] [] G (zcp h1 113 0 112 0 i) (0, 0) ↔ zE 183 (d + 9) Q 77 [some (zR (some 91)), some (zI (tg ac (nB T) : Nat)), some (zI all), some (zI l3), some (zI 3)] [] G (zcp h1 113 0 112 0 3) (0, 0)) := by
    intro j
    induction j with
    | zero =>
      intro i all h1 l3 hi
      have hi' : i = 3 := by omega
      subst hi'
      rw [e183_51]
      simp only [e183_0, e183_1, e183_4, e183_5, e183_6, e183_8, e183_9, e183_12, e183_13, e183_14, e183_15, e183_18, e183_19, e183_21, e183_22, e183_25, e183_26, e183_29, e183_30, e183_31, e183_34, e183_35, e183_36, e183_37, e183_40, e183_43, e183_44, e183_47, e183_48, e183_49, e183_53, e183_54, e183_57, e183_58, e183_61, e183_63, e183_64, e183_67, e183_69, e183_70, e183_71, e183_74, e183_78, e183_79, e183_80, e183_81, e183_84, e183_87, e183_90, e183_91, e183_92, e183_95, zs0, zsI, zsL, zsR, ztl1, ztl0, zc0, zcI, zcL, zcR, true_and, and_true, true_implies, false_implies, implies_true, not_true_eq_false, not_false_eq_true, and_self, Int.toNat_natCast, Nat.reduceAdd, Nat.reduceLeDiff, Nat.reduceLT, forall_eq', Option.some.injEq, zarR, zarI, zarL, zle, zq0, zq1, zq2, zq3, zq4, zq5, zq6, zq8, zq9, zq10, zq20, zq7, zq12, zq24, zq40, zq41, zq48, zq100, zq120, zq123, zq480, zq492, zq700, zq729, zq2187, zq2916, zq8748, ne_eq, Int.reduceEq, Int.reduceLT, Int.reduceLE, Int.reduceToNat, Int.reduceMul, Int.reduceAdd, Int.reduceNeg, Int.le_refl]
    | succ j ih =>
      intro i all h1 l3 hi
      have c1 : ¬ (3 : Int) ≤ i := by omega
      have c2 : (i : Int) < 3 := by omega
      rw [e183_51]
      simp only [e183_0, e183_1, e183_4, e183_5, e183_6, e183_8, e183_9, e183_12, e183_13, e183_14, e183_15, e183_18, e183_19, e183_21, e183_22, e183_25, e183_26, e183_29, e183_30, e183_31, e183_34, e183_35, e183_36, e183_37, e183_40, e183_43, e183_44, e183_47, e183_48, e183_49, e183_53, e183_54, e183_57, e183_58, e183_61, e183_63, e183_64, e183_67, e183_69, e183_70, e183_71, e183_74, e183_78, e183_79, e183_80, e183_81, e183_84, e183_87, e183_90, e183_91, e183_92, e183_95, zs0, zsI, zsL, zsR, ztl1, ztl0, zc0, zcI, zcL, zcR, true_and, and_true, true_implies, false_implies, implies_true, not_true_eq_false, not_false_eq_true, and_self, Int.toNat_natCast, Nat.reduceAdd, Nat.reduceLeDiff, Nat.reduceLT, forall_eq', Option.some.injEq, zarR, zarI, zarL, zle, zq0, zq1, zq2, zq3, zq4, zq5, zq6, zq8, zq9, zq10, zq20, zq7, zq12, zq24, zq40, zq41, zq48, zq100, zq120, zq123, zq480, zq492, zq700, zq729, zq2187, zq2916, zq8748, ne_eq, Int.reduceEq, Int.reduceLT, Int.reduceLE, Int.reduceToNat, Int.reduceMul, Int.reduceAdd, Int.reduceNeg, gk91 hg, gr91_5 hg, gr91_22 hg, gr91_23 hg, gr91_24 hg, gr91_25 hg, gr91_26 hg, gr91_27 hg, gr91_28 hg, gr91_29 hg, gr91_32 hg, gr91_33 hg, gr91_34 hg, gr91_35 hg, gr91_36 hg, gr91_37 hg, gr91_38 hg, gr91_39 hg, gr91_40 hg, gr91_41 hg, gr91_42 hg, gr91_44 hg, gr91_45 hg, gr91_46 hg, gr91_48 hg, gr91_49 hg, gr91_50 hg, gr91_51 hg, gr91_52 hg, gk112 hg, gl112 hg, gk113 hg, gl113 hg, c1, c2, zcp_c (show ¬ 113 = 112 by decide), zcp_s, wr_s (show i < 2147483647 by omega)]
      exact ih (i + 1) all h1 l3 (by omega)
  have lp : ∀ j all (h1 : zM) (l3 l4 : Option zV), all + j = tg ac (nB T) → rFr 2 h h1 → (∀ c i, c = 114 → h1 c i = h c i) → (h1 91 43 = 0 ∨ h1 91 43 = 1) → (h1 91 43 = 1 ↔ h 91 43 = 1 ∨ ∃ a, a < all ∧ rU T ac nn nf 1 (nx T ac nn nf hd a)) → (∀ a b, a < all → b < nB T → h1 111 ((2 * 729 + a) * 3 + b) = rW T ac nn nf 2 hd a b) → zE 183 (d + 9) Q 7 [some (zR (some 91)), some (zI (tg ac (nB T) : Nat)), some (zI all), l3, l4] [] G h1 (0, 0) := by
    intro j
    induction j with
    | zero =>
      intro all h1 l3 l4 hj f0 f9 fU fW f1
      have hj' : all = tg ac (nB T) := by omega
      subst hj'
      have pV1 : rV h1 u T := rV_frame pV (fun c i q => f0 c i (by omega) (by omega) (by omega) (by omega) (by omega) (by omega) (by omega)) (fun i => f0 _ _ (by decide) (by decide) (by omega) (by omega) (by omega) (by omega) (by omega)) (fun i q1 q2 => f0 _ _ (by decide) (by decide) (by omega) (by omega) (by omega) (by omega) (by omega))
      have pA1 : rA h1 T ac := rA_fr pA (f0 _ _ (by decide) (by decide) (by omega) (by omega) (by omega) (by omega) (by omega)) (f0 _ _ (by decide) (by decide) (by omega) (by omega) (by omega) (by omega) (by omega))
      rw [e183_7]
      simp only [e183_0, e183_1, e183_4, e183_5, e183_6, e183_8, e183_9, e183_12, e183_13, e183_14, e183_15, e183_18, e183_19, e183_21, e183_22, e183_25, e183_26, e183_29, e183_30, e183_31, e183_34, e183_35, e183_36, e183_37, e183_40, e183_43, e183_44, e183_47, e183_48, e183_49, e183_53, e183_54, e183_57, e183_58, e183_61, e183_63, e183_64, e183_67, e183_69, e183_70, e183_71, e183_74, e183_77, e183_78, e183_79, e183_80, e183_81, e183_84, e183_87, e183_90, e183_91, e183_92, e183_95, zs0, zsI, zsL, zsR, ztl1, ztl0, zc0, zcI, zcL, zcR, true_and, and_true, true_implies, false_implies, implies_true, not_true_eq_false, not_false_eq_true, and_self, Int.toNat_natCast, Nat.reduceAdd, Nat.reduceLeDiff, Nat.reduceLT, forall_eq', Option.some.injEq, zarR, zarI, zarL, zle, zq0, zq1, zq2, zq3, zq4, zq5, zq6, zq8, zq9, zq10, zq20, zq7, zq12, zq24, zq40, zq41, zq48, zq100, zq120, zq123, zq480, zq492, zq700, zq729, zq2187, zq2916, zq8748, ne_eq, Int.reduceEq, Int.reduceLT, Int.reduceLE, Int.reduceToNat, Int.reduceMul, Int.reduceAdd, Int.reduceNeg, gk91 hg, gr91_5 hg, gr91_22 hg, gr91_23 hg, gr91_24 hg, gr91_25 hg, gr91_26 hg, gr91_27 hg, gr91_28 hg, gr91_29 hg, gr91_32 hg, gr91_33 hg, gr91_34 hg, gr91_35 hg, gr91_36 hg, gr91_37 hg, gr91_38 hg, gr91_39 hg, gr91_40 hg, gr91_41 hg, gr91_42 hg, gr91_44 hg, gr91_45 hg, gr91_46 hg, gr91_48 hg, gr91_49 hg, gr91_50 hg, gr91_51 hg, gr91_52 hg, Int.le_refl]
      refine m_picks (d := d + 4) (y := 2) (w := rW T ac nn nf 2 hd) hg hu pV1 hw hc pA1 (by decide) f1 hwb fU ?_
      intro h2 g0 g1 g2
      simp only [e183_0, e183_1, e183_4, e183_5, e183_6, e183_8, e183_9, e183_12, e183_13, e183_14, e183_15, e183_18, e183_19, e183_21, e183_22, e183_25, e183_26, e183_29, e183_30, e183_31, e183_34, e183_35, e183_36, e183_37, e183_40, e183_43, e183_44, e183_47, e183_48, e183_49, e183_53, e183_54, e183_57, e183_58, e183_61, e183_63, e183_64, e183_67, e183_69, e183_70, e183_71, e183_74, e183_77, e183_78, e183_79, e183_80, e183_81, e183_84, e183_87, e183_90, e183_91, e183_92, e183_95, zs0, zsI, zsL, zsR, ztl1, ztl0, zc0, zcI, zcL, zcR, true_and, and_true, true_implies, false_implies, implies_true, not_true_eq_false, not_false_eq_true, and_self, Int.toNat_natCast, Nat.reduceAdd, Nat.reduceLeDiff, Nat.reduceLT, forall_eq', Option.some.injEq, zarR, zarI, zarL, zle, zq0, zq1, zq2, zq3, zq4, zq5, zq6, zq8, zq9, zq10, zq20, zq7, zq12, zq24, zq40, zq41, zq48, zq100, zq120, zq123, zq480, zq492, zq700, zq729, zq2187, zq2916, zq8748, ne_eq, Int.reduceEq, Int.reduceLT, Int.reduceLE, Int.reduceToNat, Int.reduceMul, Int.reduceAdd, Int.reduceNeg]
      apply K
      refine ⟨?_, ?_, ?_, g1, ?_⟩
      · intro c i q1 q2 q3 q4 q5 q6 q7
        rw [g0 c i q5]
        exact f0 c i q1 q2 q3 q4 q5 q6 q7
      · intro c i q
        rw [g0 c i (by omega)]
        exact f9 c i (by omega)
      · intro a b q1 q2
        rw [g0 _ _ (by omega)]
        exact f1 a b q1 q2
      · rw [g2, fW, rU]
        constructor
        · rintro ((q | q) | q)
          · exact Or.inl q
          · exact Or.inr (Or.inr ⟨by decide, q⟩)
          · exact Or.inr (Or.inl q)
        · rintro (q | q | q)
          · exact Or.inl (Or.inl q)
          · exact Or.inr q
          · exact Or.inl (Or.inr q.2)
    | succ j ih =>
      intro all h1 l3 l4 hj f0 f9 fU fW f1
      have hP1 : rPre T ac nn nf u (1 + 1) hd h1 := by
        refine ⟨?_, ?_, ?_, ?_, ?_, fU⟩
        · exact rV_frame pV (fun c i q => f0 c i (by omega) (by omega) (by omega) (by omega) (by omega) (by omega) (by omega)) (fun i => f0 _ _ (by decide) (by decide) (by omega) (by omega) (by omega) (by omega) (by omega)) (fun i q1 q2 => f0 _ _ (by decide) (by decide) (by omega) (by omega) (by omega) (by omega) (by omega))
        · exact rA_fr pA (f0 _ _ (by decide) (by decide) (by omega) (by omega) (by omega) (by omega) (by omega)) (f0 _ _ (by decide) (by decide) (by omega) (by omega) (by omega) (by omega) (by omega))
        · intro s b q1 q2
          rw [f0 _ _ (by decide) (by decide) (by omega) (by omega) (by omega) (by omega) (by omega)]
          exact pH s b q1 q2
        · intro s q
          rw [f0 100 s (by decide) (by decide) (by omega) (by omega) (by omega) (by omega) (by omega), f0 91 19 (by decide) (by decide) (by omega) (by omega) (by omega) (by omega) (by omega)]
          exact pF s q
        · rw [f0 91 19 (by decide) (by decide) (by omega) (by omega) (by omega) (by omega) (by omega)]
          exact pE
      have c : ¬ ((tg ac (nB T) : Nat) : Int) ≤ all := by omega
      rw [e183_7]
      simp only [e183_0, e183_1, e183_4, e183_5, e183_6, e183_8, e183_9, e183_12, e183_13, e183_14, e183_15, e183_18, e183_19, e183_21, e183_22, e183_25, e183_26, e183_29, e183_30, e183_31, e183_34, e183_35, e183_36, e183_37, e183_40, e183_43, e183_44, e183_47, e183_48, e183_49, e183_53, e183_54, e183_57, e183_58, e183_61, e183_63, e183_64, e183_67, e183_69, e183_70, e183_71, e183_74, e183_77, e183_78, e183_79, e183_80, e183_81, e183_84, e183_87, e183_90, e183_91, e183_92, e183_95, zs0, zsI, zsL, zsR, ztl1, ztl0, zc0, zcI, zcL, zcR, true_and, and_true, true_implies, false_implies, implies_true, not_true_eq_false, not_false_eq_true, and_self, Int.toNat_natCast, Nat.reduceAdd, Nat.reduceLeDiff, Nat.reduceLT, forall_eq', Option.some.injEq, zarR, zarI, zarL, zle, zq0, zq1, zq2, zq3, zq4, zq5, zq6, zq8, zq9, zq10, zq20, zq7, zq12, zq24, zq40, zq41, zq48, zq100, zq120, zq123, zq480, zq492, zq700, zq729, zq2187, zq2916, zq8748, ne_eq, Int.reduceEq, Int.reduceLT, Int.reduceLE, Int.reduceToNat, Int.reduceMul, Int.reduceAdd, Int.reduceNeg, gk91 hg, gr91_5 hg, gr91_22 hg, gr91_23 hg, gr91_24 hg, gr91_25 hg, gr91_26 hg, gr91_27 hg, gr91_28 hg, gr91_29 hg, gr91_32 hg, gr91_33 hg, gr91_34 hg, gr91_35 hg, gr91_36 hg, gr91_37 hg, gr91_38 hg, gr91_39 hg, gr91_40 hg, gr91_41 hg, gr91_42 hg, gr91_44 hg, gr91_45 hg, gr91_46 hg, gr91_48 hg, gr91_49 hg, gr91_50 hg, gr91_51 hg, gr91_52 hg, c]
      refine m_year (d := d + 1) (m := 1) hg hu hw hc hf b1 (by omega) h20 hP1 (by decide) (by omega) ?_
      intro h2 g0 g1 g2 g3 g4
      have cp := fun l4 => cpy 3 0 all h2 l4 (by omega)
      simp only [zcp_0, zq0] at cp
      simp only [e183_0, e183_1, e183_4, e183_5, e183_6, e183_8, e183_9, e183_12, e183_13, e183_14, e183_15, e183_18, e183_19, e183_21, e183_22, e183_25, e183_26, e183_29, e183_30, e183_31, e183_34, e183_35, e183_36, e183_37, e183_40, e183_43, e183_44, e183_47, e183_48, e183_49, e183_53, e183_54, e183_57, e183_58, e183_61, e183_63, e183_64, e183_67, e183_69, e183_70, e183_71, e183_74, e183_77, e183_78, e183_79, e183_80, e183_81, e183_84, e183_87, e183_90, e183_91, e183_92, e183_95, zs0, zsI, zsL, zsR, ztl1, ztl0, zc0, zcI, zcL, zcR, true_and, and_true, true_implies, false_implies, implies_true, not_true_eq_false, not_false_eq_true, and_self, Int.toNat_natCast, Nat.reduceAdd, Nat.reduceLeDiff, Nat.reduceLT, forall_eq', Option.some.injEq, zarR, zarI, zarL, zle, zq0, zq1, zq2, zq3, zq4, zq5, zq6, zq8, zq9, zq10, zq20, zq7, zq12, zq24, zq40, zq41, zq48, zq100, zq120, zq123, zq480, zq492, zq700, zq729, zq2187, zq2916, zq8748, ne_eq, Int.reduceEq, Int.reduceLT, Int.reduceLE, Int.reduceToNat, Int.reduceMul, Int.reduceAdd, Int.reduceNeg]
      rw [cp]
      simp only [e183_0, e183_1, e183_4, e183_5, e183_6, e183_8, e183_9, e183_12, e183_13, e183_14, e183_15, e183_18, e183_19, e183_21, e183_22, e183_25, e183_26, e183_29, e183_30, e183_31, e183_34, e183_35, e183_36, e183_37, e183_40, e183_43, e183_44, e183_47, e183_48, e183_49, e183_53, e183_54, e183_57, e183_58, e183_61, e183_63, e183_64, e183_67, e183_69, e183_70, e183_71, e183_74, e183_77, e183_78, e183_79, e183_80, e183_81, e183_84, e183_87, e183_90, e183_91, e183_92, e183_95, zs0, zsI, zsL, zsR, ztl1, ztl0, zc0, zcI, zcL, zcR, true_and, and_true, true_implies, false_implies, implies_true, not_true_eq_false, not_false_eq_true, and_self, Int.toNat_natCast, Nat.reduceAdd, Nat.reduceLeDiff, Nat.reduceLT, forall_eq', Option.some.injEq, zarR, zarI, zarL, zle, zq0, zq1, zq2, zq3, zq4, zq5, zq6, zq8, zq9, zq10, zq20, zq7, zq12, zq24, zq40, zq41, zq48, zq100, zq120, zq123, zq480, zq492, zq700, zq729, zq2187, zq2916, zq8748, ne_eq, Int.reduceEq, Int.reduceLT, Int.reduceLE, Int.reduceToNat, Int.reduceMul, Int.reduceAdd, Int.reduceNeg, gk91 hg, gr91_5 hg, gr91_22 hg, gr91_23 hg, gr91_24 hg, gr91_25 hg, gr91_26 hg, gr91_27 hg, gr91_28 hg, gr91_29 hg, gr91_32 hg, gr91_33 hg, gr91_34 hg, gr91_35 hg, gr91_36 hg, gr91_37 hg, gr91_38 hg, gr91_39 hg, gr91_40 hg, gr91_41 hg, gr91_42 hg, gr91_44 hg, gr91_45 hg, gr91_46 hg, gr91_48 hg, gr91_49 hg, gr91_50 hg, gr91_51 hg, gr91_52 hg]
      have e13 : ∀ b, b < 3 → zcp h2 96 0 113 0 3 113 b = eE T ac nn nf hd all b := by
        intro b q
        have := zcp_i (h := h2) (a := 96) (sp := 0) (b := 113) (dp := 0) (n := 3) (i := b) q
        rw [Nat.zero_add] at this
        rw [this]
        exact g1 b q
      have G3 : ∀ c i, ¬ c = 94 → ¬ c = 95 → c < 96 ∨ 99 < c → ¬ (c = 110 ∧ 12 * 1 ≤ i ∧ i < 12 * 1 + 12) → ¬ c = 113 → zcp h2 96 0 113 0 3 c i = h1 c i := fun c i q1 q2 q3 q4 q5 => by rw [zcp_c q5]; exact g0 c i q1 q2 q3 q4
      have N3 : ∀ s b, s < nS T → b < 3 → zcp h2 96 0 113 0 3 110 (12 * 1 + (3 * s + b)) = nx T ac nn nf hd all s b := fun s b q1 q2 => by rw [zcp_c (by decide)]; exact g4 s b q1 q2
      clear cp
      generalize zcp h2 96 0 113 0 3 = h3 at *
      have bb := nx_b hw (ac := ac) b1 hf (by omega) b2 all
      refine m_rest1 (d := d + 0) hg hu hw hc hf (nx T ac nn nf hd all) (B + 100) h3 _ bb (by omega) (by omega) (fun q s => nx_0 hw q (h20 q) all s) ?_ ?_
      · refine ⟨?_, ?_, ?_, ?_, ?_, ?_⟩
        · exact rV_frame hP1.1 (fun c i q => G3 c i (by omega) (by omega) (by omega) (by omega) (by omega)) (fun i => G3 _ _ (by decide) (by decide) (by omega) (by omega) (by omega)) (fun i q1 q2 => G3 _ _ (by decide) (by decide) (by omega) (by omega) (by omega))
        · exact rA_fr hP1.2.1 (G3 _ _ (by decide) (by decide) (by omega) (by omega) (by omega)) (G3 _ _ (by decide) (by decide) (by omega) (by omega) (by omega))
        · intro s b q1 q2
          exact N3 s b q1 (by omega)
        · intro s q
          rw [G3 100 s (by decide) (by decide) (by omega) (by omega) (by omega), G3 91 19 (by decide) (by decide) (by omega) (by omega) (by omega)]
          exact hP1.2.2.2.1 s q
        · rw [G3 91 19 (by decide) (by decide) (by omega) (by omega) (by omega)]
          exact hP1.2.2.2.2.1
        · rw [G3 91 43 (by decide) (by decide) (by omega) (by omega) (by omega)]
          exact fU
      · intro h4 hpost
        obtain ⟨p0, p9, p1, p2, p3⟩ := hpost
        have cp2 := fun l3 => cpy2 3 0 all h4 l3 (by omega)
        simp only [zcp_0, zq0] at cp2
        simp only [e183_0, e183_1, e183_4, e183_5, e183_6, e183_8, e183_9, e183_12, e183_13, e183_14, e183_15, e183_18, e183_19, e183_21, e183_22, e183_25, e183_26, e183_29, e183_30, e183_31, e183_34, e183_35, e183_36, e183_37, e183_40, e183_43, e183_44, e183_47, e183_48, e183_49, e183_53, e183_54, e183_57, e183_58, e183_61, e183_63, e183_64, e183_67, e183_69, e183_70, e183_71, e183_74, e183_77, e183_78, e183_79, e183_80, e183_81, e183_84, e183_87, e183_90, e183_91, e183_92, e183_95, zs0, zsI, zsL, zsR, ztl1, ztl0, zc0, zcI, zcL, zcR, true_and, and_true, true_implies, false_implies, implies_true, not_true_eq_false, not_false_eq_true, and_self, Int.toNat_natCast, Nat.reduceAdd, Nat.reduceLeDiff, Nat.reduceLT, forall_eq', Option.some.injEq, zarR, zarI, zarL, zle, zq0, zq1, zq2, zq3, zq4, zq5, zq6, zq8, zq9, zq10, zq20, zq7, zq12, zq24, zq40, zq41, zq48, zq100, zq120, zq123, zq480, zq492, zq700, zq729, zq2187, zq2916, zq8748, ne_eq, Int.reduceEq, Int.reduceLT, Int.reduceLE, Int.reduceToNat, Int.reduceMul, Int.reduceAdd, Int.reduceNeg, gk91 hg, gr91_5 hg, gr91_22 hg, gr91_23 hg, gr91_24 hg, gr91_25 hg, gr91_26 hg, gr91_27 hg, gr91_28 hg, gr91_29 hg, gr91_32 hg, gr91_33 hg, gr91_34 hg, gr91_35 hg, gr91_36 hg, gr91_37 hg, gr91_38 hg, gr91_39 hg, gr91_40 hg, gr91_41 hg, gr91_42 hg, gr91_44 hg, gr91_45 hg, gr91_46 hg, gr91_48 hg, gr91_49 hg, gr91_50 hg, gr91_51 hg, gr91_52 hg]
        rw [cp2]
        simp only [e183_0, e183_1, e183_4, e183_5, e183_6, e183_8, e183_9, e183_12, e183_13, e183_14, e183_15, e183_18, e183_19, e183_21, e183_22, e183_25, e183_26, e183_29, e183_30, e183_31, e183_34, e183_35, e183_36, e183_37, e183_40, e183_43, e183_44, e183_47, e183_48, e183_49, e183_53, e183_54, e183_57, e183_58, e183_61, e183_63, e183_64, e183_67, e183_69, e183_70, e183_71, e183_74, e183_77, e183_78, e183_79, e183_80, e183_81, e183_84, e183_87, e183_90, e183_91, e183_92, e183_95, zs0, zsI, zsL, zsR, ztl1, ztl0, zc0, zcI, zcL, zcR, true_and, and_true, true_implies, false_implies, implies_true, not_true_eq_false, not_false_eq_true, and_self, Int.toNat_natCast, Nat.reduceAdd, Nat.reduceLeDiff, Nat.reduceLT, forall_eq', Option.some.injEq, zarR, zarI, zarL, zle, zq0, zq1, zq2, zq3, zq4, zq5, zq6, zq8, zq9, zq10, zq20, zq7, zq12, zq24, zq40, zq41, zq48, zq100, zq120, zq123, zq480, zq492, zq700, zq729, zq2187, zq2916, zq8748, ne_eq, Int.reduceEq, Int.reduceLT, Int.reduceLE, Int.reduceToNat, Int.reduceMul, Int.reduceAdd, Int.reduceNeg, gk91 hg, gr91_5 hg, gr91_22 hg, gr91_23 hg, gr91_24 hg, gr91_25 hg, gr91_26 hg, gr91_27 hg, gr91_28 hg, gr91_29 hg, gr91_32 hg, gr91_33 hg, gr91_34 hg, gr91_35 hg, gr91_36 hg, gr91_37 hg, gr91_38 hg, gr91_39 hg, gr91_40 hg, gr91_41 hg, gr91_42 hg, gr91_44 hg, gr91_45 hg, gr91_46 hg, gr91_48 hg, gr91_49 hg, gr91_50 hg, gr91_51 hg, gr91_52 hg]
        have cb := calm_b (ac := ac) (nb := nB T) (w := rW T ac nn nf 1 (nx T ac nn nf hd all)) tb.1
        have e12 : ∀ b, b < 3 → zcp h4 113 0 112 0 3 112 b = eE T ac nn nf hd all b := by
          intro b q
          have := zcp_i (h := h4) (a := 113) (sp := 0) (b := 112) (dp := 0) (n := 3) (i := b) q
          rw [Nat.zero_add] at this
          rw [this, p9 _ _ (by omega)]
          exact e13 b q
        have G5 : ∀ c i, ¬ c = 94 → ¬ c = 95 → c < 96 ∨ 99 < c → c < 112 ∨ 114 < c → ¬ (c = 91 ∧ i = 43) → ¬ (c = 110 ∧ i < 12 * 2) → ¬ (c = 111 ∧ i < (1 + 1) * 2187) → zcp h4 113 0 112 0 3 c i = h1 c i := fun c i q1 q2 q3 q4 q5 q6 q7 => by rw [zcp_c (by omega), p0 c i q1 q2 q3 q4 q5 (by omega) q7]; exact G3 c i q1 q2 q3 (by omega) (by omega)
        have pV5 : rV (zcp h4 113 0 112 0 3) u T := rV_frame hP1.1 (fun c i q => G5 c i (by omega) (by omega) (by omega) (by omega) (by omega) (by omega) (by omega)) (fun i => G5 _ _ (by decide) (by decide) (by omega) (by omega) (by omega) (by omega) (by omega)) (fun i q1 q2 => G5 _ _ (by decide) (by decide) (by omega) (by omega) (by omega) (by omega) (by omega))
        have W5 : ∀ b, b < nB T → zcp h4 113 0 112 0 3 111 ((1 * 729 + calm ac (nB T) (rW T ac nn nf 1 (nx T ac nn nf hd all))) * 3 + b) = vV T ac nn nf 1 (nx T ac nn nf hd all) b := fun b q => by rw [zcp_c (by decide), p1 _ b cb q]; rfl
        have O5 : ∀ c i, c = 114 → zcp h4 113 0 112 0 3 c i = h c i := fun c i q => by rw [zcp_c (by omega), p9 _ _ (by omega), G3 _ _ (by omega) (by omega) (by omega) (by omega) (by omega)]; exact f9 c i q
        have U5 : zcp h4 113 0 112 0 3 91 43 = h4 91 43 := zcp_c (by decide)
        have U3 : h3 91 43 = h1 91 43 := G3 91 43 (by decide) (by decide) (by omega) (by omega) (by omega)
        clear cp2
        generalize zcp h4 113 0 112 0 3 = h5 at *
        have bv : ∀ b, -10000000000 ≤ vV T ac nn nf 1 (nx T ac nn nf hd all) b ∧ vV T ac nn nf 1 (nx T ac nn nf hd all) b ≤ 10000000000 := by
          intro b
          have r1 : -(1592000000 * ((1 : Nat) : Int)) ≤ vV T ac nn nf 1 (nx T ac nn nf hd all) b ∧ vV T ac nn nf 1 (nx T ac nn nf hd all) b ≤ 1592000000 * ((1 : Nat) : Int) := rW_b hw (ac := ac) hf 1 bb (by omega) (by omega) _ b
          omega
        refine m_puts (d := d + 7) (m := 1) (tv := vV T ac nn nf 1 (nx T ac nn nf hd all)) hg hu pV5 hw hc (by decide) (by omega) (Or.inr ⟨_, rfl, cb, W5⟩) (fun b => bv b) (fun b q => by rw [e12 b (by omega)]; exact ebd all b) ?_
        intro h6 s0 s1
        simp only [e183_0, e183_1, e183_4, e183_5, e183_6, e183_8, e183_9, e183_12, e183_13, e183_14, e183_15, e183_18, e183_19, e183_21, e183_22, e183_25, e183_26, e183_29, e183_30, e183_31, e183_34, e183_35, e183_36, e183_37, e183_40, e183_43, e183_44, e183_47, e183_48, e183_49, e183_53, e183_54, e183_57, e183_58, e183_61, e183_63, e183_64, e183_67, e183_69, e183_70, e183_71, e183_74, e183_77, e183_78, e183_79, e183_80, e183_81, e183_84, e183_87, e183_90, e183_91, e183_92, e183_95, zs0, zsI, zsL, zsR, ztl1, ztl0, zc0, zcI, zcL, zcR, true_and, and_true, true_implies, false_implies, implies_true, not_true_eq_false, not_false_eq_true, and_self, Int.toNat_natCast, Nat.reduceAdd, Nat.reduceLeDiff, Nat.reduceLT, forall_eq', Option.some.injEq, zarR, zarI, zarL, zle, zq0, zq1, zq2, zq3, zq4, zq5, zq6, zq8, zq9, zq10, zq20, zq7, zq12, zq24, zq40, zq41, zq48, zq100, zq120, zq123, zq480, zq492, zq700, zq729, zq2187, zq2916, zq8748, ne_eq, Int.reduceEq, Int.reduceLT, Int.reduceLE, Int.reduceToNat, Int.reduceMul, Int.reduceAdd, Int.reduceNeg, wr_s (show all < 2147483647 by omega)]
        apply ih (all + 1) h6 _ _ (by omega)
        · intro c i q1 q2 q3 q4 q5 q6 q7
          rw [s0 c i (by omega), G5 c i q1 q2 q3 q4 q5 q6 (by omega)]
          exact f0 c i q1 q2 q3 q4 q5 q6 q7
        · intro c i q
          rw [s0 c i (by omega)]
          exact O5 c i q
        · rw [s0 _ _ (by omega), U5]
          exact p2
        · rw [s0 _ _ (by omega), U5, p3, U3, fW]
          constructor
          · rintro ((q | ⟨a, qa, qb⟩) | q)
            · exact Or.inl q
            · exact Or.inr ⟨a, by omega, qb⟩
            · exact Or.inr ⟨all, by omega, q⟩
          · rintro (q | ⟨a, qa, qb⟩)
            · exact Or.inl (Or.inl q)
            · by_cases q4 : a = all
              · subst q4
                exact Or.inr qb
              · exact Or.inl (Or.inr ⟨a, by omega, qb⟩)
        · intro a b q1 q2
          by_cases q3 : a = all
          · subst q3
            rw [s1 b q2, e12 b (by omega), rW_s, if_neg (by decide)]
          · rw [s0 _ _ (by omega), G5 _ _ (by decide) (by decide) (by omega) (by omega) (by omega) (by omega) (by omega)]
            exact f1 a b (by omega) q2
  simp only [e183_0, e183_1, e183_4, e183_5, e183_6, e183_8, e183_9, e183_12, e183_13, e183_14, e183_15, e183_18, e183_19, e183_21, e183_22, e183_25, e183_26, e183_29, e183_30, e183_31, e183_34, e183_35, e183_36, e183_37, e183_40, e183_43, e183_44, e183_47, e183_48, e183_49, e183_53, e183_54, e183_57, e183_58, e183_61, e183_63, e183_64, e183_67, e183_69, e183_70, e183_71, e183_74, e183_77, e183_78, e183_79, e183_80, e183_81, e183_84, e183_87, e183_90, e183_91, e183_92, e183_95, zs0, zsI, zsL, zsR, ztl1, ztl0, zc0, zcI, zcL, zcR, true_and, and_true, true_implies, false_implies, implies_true, not_true_eq_false, not_false_eq_true, and_self, Int.toNat_natCast, Nat.reduceAdd, Nat.reduceLeDiff, Nat.reduceLT, forall_eq', Option.some.injEq, zarR, zarI, zarL, zle, zq0, zq1, zq2, zq3, zq4, zq5, zq6, zq8, zq9, zq10, zq20, zq7, zq12, zq24, zq40, zq41, zq48, zq100, zq120, zq123, zq480, zq492, zq700, zq729, zq2187, zq2916, zq8748, ne_eq, Int.reduceEq, Int.reduceLT, Int.reduceLE, Int.reduceToNat, Int.reduceMul, Int.reduceAdd, Int.reduceNeg, gk91 hg, gr91_5 hg, gr91_22 hg, gr91_23 hg, gr91_24 hg, gr91_25 hg, gr91_26 hg, gr91_27 hg, gr91_28 hg, gr91_29 hg, gr91_32 hg, gr91_33 hg, gr91_34 hg, gr91_35 hg, gr91_36 hg, gr91_37 hg, gr91_38 hg, gr91_39 hg, gr91_40 hg, gr91_41 hg, gr91_42 hg, gr91_44 hg, gr91_45 hg, gr91_46 hg, gr91_48 hg, gr91_49 hg, gr91_50 hg, gr91_51 hg, gr91_52 hg, q0]
  refine lp (tg ac (nB T)) 0 h _ _ (by omega) (fun _ _ _ _ _ _ _ _ _ => rfl) (fun _ _ _ => rfl) pU ?_ (fun a b q => by omega)
  constructor
  · exact Or.inl
  · rintro (q | ⟨a, q, _⟩)
    · exact q
    · omega
theorem m_rest3 (hg : gS G) (hu : gU G u) (hw : wT T) (hc : acOk T ac) (hf : fB nn nf) : RPp G T ac nn nf u d 3 := by
  intro hd B h Q b1 b2 b3 h20 hP K
  rw [show d + (8 + 3) = d + 10 + 1 from rfl, r184]
  have hBk := hw.1
  have hSk := hw.2.1
  have tb := tg_b hw hc
  have hP0 := hP
  obtain ⟨pV, pA, pH, pF, pE, pU⟩ := hP
  have hok := aN_ok b1 hf (by omega)
  have q0 : ∀ Q' : zQ, zRunD ztb zmt' (d + 10) 170 [zR (some 91)] G h Q' ↔ Q' (some (zI (tg ac (nB T) : Nat))) G h := fun Q' => m_allActs (d := d + 8) hg hu pV hw hc pA
  have hwb : ∀ a b, -100000000000 ≤ rW T ac nn nf 3 hd a b ∧ rW T ac nn nf 3 hd a b ≤ 100000000000 := by
    intro a b
    have := rW_b hw (ac := ac) hf 3 b1 (by omega) b2 a b
    omega
  have ebd : ∀ a b, -2147483648 ≤ eE T ac nn nf hd a b ∧ eE T ac nn nf hd a b ≤ 2147483647 := by
    intro a b
    have r4 : -(398000000 * (nS T : Int)) ≤ eE T ac nn nf hd a b ∧ eE T ac nn nf hd a b ≤ 398000000 * (nS T : Int) := aEarS_t (to := aTo T (aOwn T ac a) (aOth T ac a)) hw hok (aOwn_b hw ac a) (aOth_b hw ac a) b (nS T)
    omega
  have cpy : ∀ (j i : Nat) (all : Nat) (h1 : zM) (l4 : Option zV), i + j = 3 → (zE 184 (d + 10) Q 20 [some (zR (some 91)), some (zI (tg ac (nB T) : Nat)), some (zI all), some (zI i), l4] [] G (zcp h1 96 0 114 0 i) (0, 0) ↔ zE 184 (d + 10) Q 43 [some (zR (some 91)), some (zI (tg ac (nB T) : Nat)), some (zI all), some (zI 3), l4] [] G (zcp h1 96 0 114 0 3) (0, 0)) := by
    intro j
    induction j with
    | zero =>
      intro i all h1 l4 hi
      have hi' : i = 3 := by omega
      subst hi'
      rw [e184_20]
      simp only [e184_0, e184_1, e184_4, e184_5, e184_6, e184_8, e184_9, e184_12, e184_13, e184_14, e184_15, e184_18, e184_19, e184_21, e184_22, e184_25, e184_26, e184_29, e184_30, e184_31, e184_34, e184_35, e184_36, e184_37, e184_40, e184_44, e184_47, e184_48, e184_49, e184_53, e184_54, e184_57, e184_58, e184_61, e184_63, e184_64, e184_67, e184_69, e184_70, e184_71, e184_74, e184_77, e184_78, e184_79, e184_80, e184_81, e184_84, e184_87, e184_90, e184_91, e184_92, e184_95, zs0, zsI, zsL, zsR, ztl1, ztl0, zc0, zcI, zcL, zcR, true_and, and_true, true_implies, false_implies, implies_true, not_true_eq_false, not_false_eq_true, and_self, Int.toNat_natCast, Nat.reduceAdd, Nat.reduceLeDiff, Nat.reduceLT, forall_eq', Option.some.injEq, zarR, zarI, zarL, zle, zq0, zq1, zq2, zq3, zq4, zq5, zq6, zq8, zq9, zq10, zq20, zq7, zq12, zq24, zq40, zq41, zq48, zq100, zq120, zq123, zq480, zq492, zq700, zq729, zq2187, zq2916, zq8748, ne_eq, Int.reduceEq, Int.reduceLT, Int.reduceLE, Int.reduceToNat, Int.reduceMul, Int.reduceAdd, Int.reduceNeg, Int.le_refl]
    | succ j ih =>
      intro i all h1 l4 hi
      have c1 : ¬ (3 : Int) ≤ i := by omega
      have c2 : (i : Int) < 3 := by omega
      rw [e184_20]
      simp only [e184_0, e184_1, e184_4, e184_5, e184_6, e184_8, e184_9, e184_12, e184_13, e184_14, e184_15, e184_18, e184_19, e184_21, e184_22, e184_25, e184_26, e184_29, e184_30, e184_31, e184_34, e184_35, e184_36, e184_37, e184_40, e184_44, e184_47, e184_48, e184_49, e184_53, e184_54, e184_57, e184_58, e184_61, e184_63, e184_64, e184_67, e184_69, e184_70, e184_71, e184_74, e184_77, e184_78, e184_79, e184_80, e184_81, e184_84, e184_87, e184_90, e184_91, e184_92, e184_95, zs0, zsI, zsL, zsR, ztl1, ztl0, zc0, zcI, zcL, zcR, true_and, and_true, true_implies, false_implies, implies_true, not_true_eq_false, not_false_eq_true, and_self, Int.toNat_natCast, Nat.reduceAdd, Nat.reduceLeDiff, Nat.reduceLT, forall_eq', Option.some.injEq, zarR, zarI, zarL, zle, zq0, zq1, zq2, zq3, zq4, zq5, zq6, zq8, zq9, zq10, zq20, zq7, zq12, zq24, zq40, zq41, zq48, zq100, zq120, zq123, zq480, zq492, zq700, zq729, zq2187, zq2916, zq8748, ne_eq, Int.reduceEq, Int.reduceLT, Int.reduceLE, Int.reduceToNat, Int.reduceMul, Int.reduceAdd, Int.reduceNeg, gk91 hg, gr91_5 hg, gr91_22 hg, gr91_23 hg, gr91_24 hg, gr91_25 hg, gr91_26 hg, gr91_27 hg, gr91_28 hg, gr91_29 hg, gr91_32 hg, gr91_33 hg, gr91_34 hg, gr91_35 hg, gr91_36 hg, gr91_37 hg, gr91_38 hg, gr91_39 hg, gr91_40 hg, gr91_41 hg, gr91_42 hg, gr91_44 hg, gr91_45 hg, gr91_46 hg, gr91_48 hg, gr91_49 hg, gr91_50 hg, gr91_51 hg, gr91_52 hg, gk96 hg, gl96 hg, gk114 hg, gl114 hg, c1, c2, zcp_c (show ¬ 96 = 114 by decide), zcp_s, wr_s (show i < 2147483647 by omega)]
      exact ih (i + 1) all h1 l4 (by omega)
  have cpy2 : ∀ (j i : Nat) (all : Nat) (h1 : zM) (l3 : Int), i + j = 3 → (zE 184 (d + 10) Q 51 [some (zR (some 91)), some (zI (tg ac (nB T) : Nat)), some (zI all), some (zI l3), some (zI i)] [] G (zcp h1 114 0 112 0 i) (0, 0) ↔ zE 184 (d + 10) Q 77 [some (zR (some 91)), some (zI (tg ac (nB T) : Nat)), some (zI all), some (zI l3), some (zI 3)] [] G (zcp h1 114 0 112 0 3) (0, 0)) := by
    intro j
    induction j with
    | zero =>
      intro i all h1 l3 hi
      have hi' : i = 3 := by omega
      subst hi'
      rw [e184_51]
      simp only [e184_0, e184_1, e184_4, e184_5, e184_6, e184_8, e184_9, e184_12, e184_13, e184_14, e184_15, e184_18, e184_19, e184_21, e184_22, e184_25, e184_26, e184_29, e184_30, e184_31, e184_34, e184_35, e184_36, e184_37, e184_40, e184_43, e184_44, e184_47, e184_48, e184_49, e184_53, e184_54, e184_57, e184_58, e184_61, e184_63, e184_64, e184_67, e184_69, e184_70, e184_71, e184_74, e184_78, e184_79, e184_80, e184_81, e184_84, e184_87, e184_90, e184_91, e184_92, e184_95, zs0, zsI, zsL, zsR, ztl1, ztl0, zc0, zcI, zcL, zcR, true_and, and_true, true_implies, false_implies, implies_true, not_true_eq_false, not_false_eq_true, and_self, Int.toNat_natCast, Nat.reduceAdd, Nat.reduceLeDiff, Nat.reduceLT, forall_eq', Option.some.injEq, zarR, zarI, zarL, zle, zq0, zq1, zq2, zq3, zq4, zq5, zq6, zq8, zq9, zq10, zq20, zq7, zq12, zq24, zq40, zq41, zq48, zq100, zq120, zq123, zq480, zq492, zq700, zq729, zq2187, zq2916, zq8748, ne_eq, Int.reduceEq, Int.reduceLT, Int.reduceLE, Int.reduceToNat, Int.reduceMul, Int.reduceAdd, Int.reduceNeg, Int.le_refl]
    | succ j ih =>
      intro i all h1 l3 hi
      have c1 : ¬ (3 : Int) ≤ i := by omega
      have c2 : (i : Int) < 3 := by omega
      rw [e184_51]
      simp only [e184_0, e184_1, e184_4, e184_5, e184_6, e184_8, e184_9, e184_12, e184_13, e184_14, e184_15, e184_18, e184_19, e184_21, e184_22, e184_25, e184_26, e184_29, e184_30, e184_31, e184_34, e184_35, e184_36, e184_37, e184_40, e184_43, e184_44, e184_47, e184_48, e184_49, e184_53, e184_54, e184_57, e184_58, e184_61, e184_63, e184_64, e184_67, e184_69, e184_70, e184_71, e184_74, e184_78, e184_79, e184_80, e184_81, e184_84, e184_87, e184_90, e184_91, e184_92, e184_95, zs0, zsI, zsL, zsR, ztl1, ztl0, zc0, zcI, zcL, zcR, true_and, and_true, true_implies, false_implies, implies_true, not_true_eq_false, not_false_eq_true, and_self, Int.toNat_natCast, Nat.reduceAdd, Nat.reduceLeDiff, Nat.reduceLT, forall_eq', Option.some.injEq, zarR, zarI, zarL, zle, zq0, zq1, zq2, zq3, zq4, zq5, zq6, zq8, zq9, zq10, zq20, zq7, zq12, zq24, zq40, zq41, zq48, zq100, zq120, zq123, zq480, zq492, zq700, zq729, zq2187, zq2916, zq8748, ne_eq, Int.reduceEq, Int.reduceLT, Int.reduceLE, Int.reduceToNat, Int.reduceMul, Int.reduceAdd, Int.reduceNeg, gk91 hg, gr91_5 hg, gr91_22 hg, gr91_23 hg, gr91_24 hg, gr91_25 hg, gr91_26 hg, gr91_27 hg, gr91_28 hg, gr91_29 hg, gr91_32 hg, gr91_33 hg, gr91_34 hg, gr91_35 hg, gr91_36 hg, gr91_37 hg, gr91_38 hg, gr91_39 hg, gr91_40 hg, gr91_41 hg, gr91_42 hg, gr91_44 hg, gr91_45 hg, gr91_46 hg, gr91_48 hg, gr91_49 hg, gr91_50 hg, gr91_51 hg, gr91_52 hg, gk112 hg, gl112 hg, gk114 hg, gl114 hg, c1, c2, zcp_c (show ¬ 114 = 112 by decide), zcp_s, wr_s (show i < 2147483647 by omega)]
      exact ih (i + 1) all h1 l3 (by omega)
  have lp : ∀ j all (h1 : zM) (l3 l4 : Option zV), all + j = tg ac (nB T) → rFr 3 h h1 → (∀ c i, c = 113 ∧ c = 114 → h1 c i = h c i) → (h1 91 43 = 0 ∨ h1 91 43 = 1) → (h1 91 43 = 1 ↔ h 91 43 = 1 ∨ ∃ a, a < all ∧ rU T ac nn nf 2 (nx T ac nn nf hd a)) → (∀ a b, a < all → b < nB T → h1 111 ((3 * 729 + a) * 3 + b) = rW T ac nn nf 3 hd a b) → zE 184 (d + 10) Q 7 [some (zR (some 91)), some (zI (tg ac (nB T) : Nat)), some (zI all), l3, l4] [] G h1 (0, 0) := by
    intro j
    induction j with
    | zero =>
      intro all h1 l3 l4 hj f0 f9 fU fW f1
      have hj' : all = tg ac (nB T) := by omega
      subst hj'
      have pV1 : rV h1 u T := rV_frame pV (fun c i q => f0 c i (by omega) (by omega) (by omega) (by omega) (by omega) (by omega) (by omega)) (fun i => f0 _ _ (by decide) (by decide) (by omega) (by omega) (by omega) (by omega) (by omega)) (fun i q1 q2 => f0 _ _ (by decide) (by decide) (by omega) (by omega) (by omega) (by omega) (by omega))
      have pA1 : rA h1 T ac := rA_fr pA (f0 _ _ (by decide) (by decide) (by omega) (by omega) (by omega) (by omega) (by omega)) (f0 _ _ (by decide) (by decide) (by omega) (by omega) (by omega) (by omega) (by omega))
      rw [e184_7]
      simp only [e184_0, e184_1, e184_4, e184_5, e184_6, e184_8, e184_9, e184_12, e184_13, e184_14, e184_15, e184_18, e184_19, e184_21, e184_22, e184_25, e184_26, e184_29, e184_30, e184_31, e184_34, e184_35, e184_36, e184_37, e184_40, e184_43, e184_44, e184_47, e184_48, e184_49, e184_53, e184_54, e184_57, e184_58, e184_61, e184_63, e184_64, e184_67, e184_69, e184_70, e184_71, e184_74, e184_77, e184_78, e184_79, e184_80, e184_81, e184_84, e184_87, e184_90, e184_91, e184_92, e184_95, zs0, zsI, zsL, zsR, ztl1, ztl0, zc0, zcI, zcL, zcR, true_and, and_true, true_implies, false_implies, implies_true, not_true_eq_false, not_false_eq_true, and_self, Int.toNat_natCast, Nat.reduceAdd, Nat.reduceLeDiff, Nat.reduceLT, forall_eq', Option.some.injEq, zarR, zarI, zarL, zle, zq0, zq1, zq2, zq3, zq4, zq5, zq6, zq8, zq9, zq10, zq20, zq7, zq12, zq24, zq40, zq41, zq48, zq100, zq120, zq123, zq480, zq492, zq700, zq729, zq2187, zq2916, zq8748, ne_eq, Int.reduceEq, Int.reduceLT, Int.reduceLE, Int.reduceToNat, Int.reduceMul, Int.reduceAdd, Int.reduceNeg, gk91 hg, gr91_5 hg, gr91_22 hg, gr91_23 hg, gr91_24 hg, gr91_25 hg, gr91_26 hg, gr91_27 hg, gr91_28 hg, gr91_29 hg, gr91_32 hg, gr91_33 hg, gr91_34 hg, gr91_35 hg, gr91_36 hg, gr91_37 hg, gr91_38 hg, gr91_39 hg, gr91_40 hg, gr91_41 hg, gr91_42 hg, gr91_44 hg, gr91_45 hg, gr91_46 hg, gr91_48 hg, gr91_49 hg, gr91_50 hg, gr91_51 hg, gr91_52 hg, Int.le_refl]
      refine m_picks (d := d + 5) (y := 3) (w := rW T ac nn nf 3 hd) hg hu pV1 hw hc pA1 (by decide) f1 hwb fU ?_
      intro h2 g0 g1 g2
      simp only [e184_0, e184_1, e184_4, e184_5, e184_6, e184_8, e184_9, e184_12, e184_13, e184_14, e184_15, e184_18, e184_19, e184_21, e184_22, e184_25, e184_26, e184_29, e184_30, e184_31, e184_34, e184_35, e184_36, e184_37, e184_40, e184_43, e184_44, e184_47, e184_48, e184_49, e184_53, e184_54, e184_57, e184_58, e184_61, e184_63, e184_64, e184_67, e184_69, e184_70, e184_71, e184_74, e184_77, e184_78, e184_79, e184_80, e184_81, e184_84, e184_87, e184_90, e184_91, e184_92, e184_95, zs0, zsI, zsL, zsR, ztl1, ztl0, zc0, zcI, zcL, zcR, true_and, and_true, true_implies, false_implies, implies_true, not_true_eq_false, not_false_eq_true, and_self, Int.toNat_natCast, Nat.reduceAdd, Nat.reduceLeDiff, Nat.reduceLT, forall_eq', Option.some.injEq, zarR, zarI, zarL, zle, zq0, zq1, zq2, zq3, zq4, zq5, zq6, zq8, zq9, zq10, zq20, zq7, zq12, zq24, zq40, zq41, zq48, zq100, zq120, zq123, zq480, zq492, zq700, zq729, zq2187, zq2916, zq8748, ne_eq, Int.reduceEq, Int.reduceLT, Int.reduceLE, Int.reduceToNat, Int.reduceMul, Int.reduceAdd, Int.reduceNeg]
      apply K
      refine ⟨?_, ?_, ?_, g1, ?_⟩
      · intro c i q1 q2 q3 q4 q5 q6 q7
        rw [g0 c i q5]
        exact f0 c i q1 q2 q3 q4 q5 q6 q7
      · intro c i q
        rw [g0 c i (by omega)]
        exact f9 c i (by omega)
      · intro a b q1 q2
        rw [g0 _ _ (by omega)]
        exact f1 a b q1 q2
      · rw [g2, fW, rU]
        constructor
        · rintro ((q | q) | q)
          · exact Or.inl q
          · exact Or.inr (Or.inr ⟨by decide, q⟩)
          · exact Or.inr (Or.inl q)
        · rintro (q | q | q)
          · exact Or.inl (Or.inl q)
          · exact Or.inr q
          · exact Or.inl (Or.inr q.2)
    | succ j ih =>
      intro all h1 l3 l4 hj f0 f9 fU fW f1
      have hP1 : rPre T ac nn nf u (2 + 1) hd h1 := by
        refine ⟨?_, ?_, ?_, ?_, ?_, fU⟩
        · exact rV_frame pV (fun c i q => f0 c i (by omega) (by omega) (by omega) (by omega) (by omega) (by omega) (by omega)) (fun i => f0 _ _ (by decide) (by decide) (by omega) (by omega) (by omega) (by omega) (by omega)) (fun i q1 q2 => f0 _ _ (by decide) (by decide) (by omega) (by omega) (by omega) (by omega) (by omega))
        · exact rA_fr pA (f0 _ _ (by decide) (by decide) (by omega) (by omega) (by omega) (by omega) (by omega)) (f0 _ _ (by decide) (by decide) (by omega) (by omega) (by omega) (by omega) (by omega))
        · intro s b q1 q2
          rw [f0 _ _ (by decide) (by decide) (by omega) (by omega) (by omega) (by omega) (by omega)]
          exact pH s b q1 q2
        · intro s q
          rw [f0 100 s (by decide) (by decide) (by omega) (by omega) (by omega) (by omega) (by omega), f0 91 19 (by decide) (by decide) (by omega) (by omega) (by omega) (by omega) (by omega)]
          exact pF s q
        · rw [f0 91 19 (by decide) (by decide) (by omega) (by omega) (by omega) (by omega) (by omega)]
          exact pE
      have c : ¬ ((tg ac (nB T) : Nat) : Int) ≤ all := by omega
      rw [e184_7]
      simp only [e184_0, e184_1, e184_4, e184_5, e184_6, e184_8, e184_9, e184_12, e184_13, e184_14, e184_15, e184_18, e184_19, e184_21, e184_22, e184_25, e184_26, e184_29, e184_30, e184_31, e184_34, e184_35, e184_36, e184_37, e184_40, e184_43, e184_44, e184_47, e184_48, e184_49, e184_53, e184_54, e184_57, e184_58, e184_61, e184_63, e184_64, e184_67, e184_69, e184_70, e184_71, e184_74, e184_77, e184_78, e184_79, e184_80, e184_81, e184_84, e184_87, e184_90, e184_91, e184_92, e184_95, zs0, zsI, zsL, zsR, ztl1, ztl0, zc0, zcI, zcL, zcR, true_and, and_true, true_implies, false_implies, implies_true, not_true_eq_false, not_false_eq_true, and_self, Int.toNat_natCast, Nat.reduceAdd, Nat.reduceLeDiff, Nat.reduceLT, forall_eq', Option.some.injEq, zarR, zarI, zarL, zle, zq0, zq1, zq2, zq3, zq4, zq5, zq6, zq8, zq9, zq10, zq20, zq7, zq12, zq24, zq40, zq41, zq48, zq100, zq120, zq123, zq480, zq492, zq700, zq729, zq2187, zq2916, zq8748, ne_eq, Int.reduceEq, Int.reduceLT, Int.reduceLE, Int.reduceToNat, Int.reduceMul, Int.reduceAdd, Int.reduceNeg, gk91 hg, gr91_5 hg, gr91_22 hg, gr91_23 hg, gr91_24 hg, gr91_25 hg, gr91_26 hg, gr91_27 hg, gr91_28 hg, gr91_29 hg, gr91_32 hg, gr91_33 hg, gr91_34 hg, gr91_35 hg, gr91_36 hg, gr91_37 hg, gr91_38 hg, gr91_39 hg, gr91_40 hg, gr91_41 hg, gr91_42 hg, gr91_44 hg, gr91_45 hg, gr91_46 hg, gr91_48 hg, gr91_49 hg, gr91_50 hg, gr91_51 hg, gr91_52 hg, c]
      refine m_year (d := d + 2) (m := 2) hg hu hw hc hf b1 (by omega) h20 hP1 (by decide) (by omega) ?_
      intro h2 g0 g1 g2 g3 g4
      have cp := fun l4 => cpy 3 0 all h2 l4 (by omega)
      simp only [zcp_0, zq0] at cp
      simp only [e184_0, e184_1, e184_4, e184_5, e184_6, e184_8, e184_9, e184_12, e184_13, e184_14, e184_15, e184_18, e184_19, e184_21, e184_22, e184_25, e184_26, e184_29, e184_30, e184_31, e184_34, e184_35, e184_36, e184_37, e184_40, e184_43, e184_44, e184_47, e184_48, e184_49, e184_53, e184_54, e184_57, e184_58, e184_61, e184_63, e184_64, e184_67, e184_69, e184_70, e184_71, e184_74, e184_77, e184_78, e184_79, e184_80, e184_81, e184_84, e184_87, e184_90, e184_91, e184_92, e184_95, zs0, zsI, zsL, zsR, ztl1, ztl0, zc0, zcI, zcL, zcR, true_and, and_true, true_implies, false_implies, implies_true, not_true_eq_false, not_false_eq_true, and_self, Int.toNat_natCast, Nat.reduceAdd, Nat.reduceLeDiff, Nat.reduceLT, forall_eq', Option.some.injEq, zarR, zarI, zarL, zle, zq0, zq1, zq2, zq3, zq4, zq5, zq6, zq8, zq9, zq10, zq20, zq7, zq12, zq24, zq40, zq41, zq48, zq100, zq120, zq123, zq480, zq492, zq700, zq729, zq2187, zq2916, zq8748, ne_eq, Int.reduceEq, Int.reduceLT, Int.reduceLE, Int.reduceToNat, Int.reduceMul, Int.reduceAdd, Int.reduceNeg]
      rw [cp]
      simp only [e184_0, e184_1, e184_4, e184_5, e184_6, e184_8, e184_9, e184_12, e184_13, e184_14, e184_15, e184_18, e184_19, e184_21, e184_22, e184_25, e184_26, e184_29, e184_30, e184_31, e184_34, e184_35, e184_36, e184_37, e184_40, e184_43, e184_44, e184_47, e184_48, e184_49, e184_53, e184_54, e184_57, e184_58, e184_61, e184_63, e184_64, e184_67, e184_69, e184_70, e184_71, e184_74, e184_77, e184_78, e184_79, e184_80, e184_81, e184_84, e184_87, e184_90, e184_91, e184_92, e184_95, zs0, zsI, zsL, zsR, ztl1, ztl0, zc0, zcI, zcL, zcR, true_and, and_true, true_implies, false_implies, implies_true, not_true_eq_false, not_false_eq_true, and_self, Int.toNat_natCast, Nat.reduceAdd, Nat.reduceLeDiff, Nat.reduceLT, forall_eq', Option.some.injEq, zarR, zarI, zarL, zle, zq0, zq1, zq2, zq3, zq4, zq5, zq6, zq8, zq9, zq10, zq20, zq7, zq12, zq24, zq40, zq41, zq48, zq100, zq120, zq123, zq480, zq492, zq700, zq729, zq2187, zq2916, zq8748, ne_eq, Int.reduceEq, Int.reduceLT, Int.reduceLE, Int.reduceToNat, Int.reduceMul, Int.reduceAdd, Int.reduceNeg, gk91 hg, gr91_5 hg, gr91_22 hg, gr91_23 hg, gr91_24 hg, gr91_25 hg, gr91_26 hg, gr91_27 hg, gr91_28 hg, gr91_29 hg, gr91_32 hg, gr91_33 hg, gr91_34 hg, gr91_35 hg, gr91_36 hg, gr91_37 hg, gr91_38 hg, gr91_39 hg, gr91_40 hg, gr91_41 hg, gr91_42 hg, gr91_44 hg, gr91_45 hg, gr91_46 hg, gr91_48 hg, gr91_49 hg, gr91_50 hg, gr91_51 hg, gr91_52 hg]
      have e13 : ∀ b, b < 3 → zcp h2 96 0 114 0 3 114 b = eE T ac nn nf hd all b := by
        intro b q
        have := zcp_i (h := h2) (a := 96) (sp := 0) (b := 114) (dp := 0) (n := 3) (i := b) q
        rw [Nat.zero_add] at this
        rw [this]
        exact g1 b q
      have G3 : ∀ c i, ¬ c = 94 → ¬ c = 95 → c < 96 ∨ 99 < c → ¬ (c = 110 ∧ 12 * 2 ≤ i ∧ i < 12 * 2 + 12) → ¬ c = 114 → zcp h2 96 0 114 0 3 c i = h1 c i := fun c i q1 q2 q3 q4 q5 => by rw [zcp_c q5]; exact g0 c i q1 q2 q3 q4
      have N3 : ∀ s b, s < nS T → b < 3 → zcp h2 96 0 114 0 3 110 (12 * 2 + (3 * s + b)) = nx T ac nn nf hd all s b := fun s b q1 q2 => by rw [zcp_c (by decide)]; exact g4 s b q1 q2
      clear cp
      generalize zcp h2 96 0 114 0 3 = h3 at *
      have bb := nx_b hw (ac := ac) b1 hf (by omega) b2 all
      refine m_rest2 (d := d + 0) hg hu hw hc hf (nx T ac nn nf hd all) (B + 100) h3 _ bb (by omega) (by omega) (fun q s => nx_0 hw q (h20 q) all s) ?_ ?_
      · refine ⟨?_, ?_, ?_, ?_, ?_, ?_⟩
        · exact rV_frame hP1.1 (fun c i q => G3 c i (by omega) (by omega) (by omega) (by omega) (by omega)) (fun i => G3 _ _ (by decide) (by decide) (by omega) (by omega) (by omega)) (fun i q1 q2 => G3 _ _ (by decide) (by decide) (by omega) (by omega) (by omega))
        · exact rA_fr hP1.2.1 (G3 _ _ (by decide) (by decide) (by omega) (by omega) (by omega)) (G3 _ _ (by decide) (by decide) (by omega) (by omega) (by omega))
        · intro s b q1 q2
          exact N3 s b q1 (by omega)
        · intro s q
          rw [G3 100 s (by decide) (by decide) (by omega) (by omega) (by omega), G3 91 19 (by decide) (by decide) (by omega) (by omega) (by omega)]
          exact hP1.2.2.2.1 s q
        · rw [G3 91 19 (by decide) (by decide) (by omega) (by omega) (by omega)]
          exact hP1.2.2.2.2.1
        · rw [G3 91 43 (by decide) (by decide) (by omega) (by omega) (by omega)]
          exact fU
      · intro h4 hpost
        obtain ⟨p0, p9, p1, p2, p3⟩ := hpost
        have cp2 := fun l3 => cpy2 3 0 all h4 l3 (by omega)
        simp only [zcp_0, zq0] at cp2
        simp only [e184_0, e184_1, e184_4, e184_5, e184_6, e184_8, e184_9, e184_12, e184_13, e184_14, e184_15, e184_18, e184_19, e184_21, e184_22, e184_25, e184_26, e184_29, e184_30, e184_31, e184_34, e184_35, e184_36, e184_37, e184_40, e184_43, e184_44, e184_47, e184_48, e184_49, e184_53, e184_54, e184_57, e184_58, e184_61, e184_63, e184_64, e184_67, e184_69, e184_70, e184_71, e184_74, e184_77, e184_78, e184_79, e184_80, e184_81, e184_84, e184_87, e184_90, e184_91, e184_92, e184_95, zs0, zsI, zsL, zsR, ztl1, ztl0, zc0, zcI, zcL, zcR, true_and, and_true, true_implies, false_implies, implies_true, not_true_eq_false, not_false_eq_true, and_self, Int.toNat_natCast, Nat.reduceAdd, Nat.reduceLeDiff, Nat.reduceLT, forall_eq', Option.some.injEq, zarR, zarI, zarL, zle, zq0, zq1, zq2, zq3, zq4, zq5, zq6, zq8, zq9, zq10, zq20, zq7, zq12, zq24, zq40, zq41, zq48, zq100, zq120, zq123, zq480, zq492, zq700, zq729, zq2187, zq2916, zq8748, ne_eq, Int.reduceEq, Int.reduceLT, Int.reduceLE, Int.reduceToNat, Int.reduceMul, Int.reduceAdd, Int.reduceNeg, gk91 hg, gr91_5 hg, gr91_22 hg, gr91_23 hg, gr91_24 hg, gr91_25 hg, gr91_26 hg, gr91_27 hg, gr91_28 hg, gr91_29 hg, gr91_32 hg, gr91_33 hg, gr91_34 hg, gr91_35 hg, gr91_36 hg, gr91_37 hg, gr91_38 hg, gr91_39 hg, gr91_40 hg, gr91_41 hg, gr91_42 hg, gr91_44 hg, gr91_45 hg, gr91_46 hg, gr91_48 hg, gr91_49 hg, gr91_50 hg, gr91_51 hg, gr91_52 hg]
        rw [cp2]
        simp only [e184_0, e184_1, e184_4, e184_5, e184_6, e184_8, e184_9, e184_12, e184_13, e184_14, e184_15, e184_18, e184_19, e184_21, e184_22, e184_25, e184_26, e184_29, e184_30, e184_31, e184_34, e184_35, e184_36, e184_37, e184_40, e184_43, e184_44, e184_47, e184_48, e184_49, e184_53, e184_54, e184_57, e184_58, e184_61, e184_63, e184_64, e184_67, e184_69, e184_70, e184_71, e184_74, e184_77, e184_78, e184_79, e184_80, e184_81, e184_84, e184_87, e184_90, e184_91, e184_92, e184_95, zs0, zsI, zsL, zsR, ztl1, ztl0, zc0, zcI, zcL, zcR, true_and, and_true, true_implies, false_implies, implies_true, not_true_eq_false, not_false_eq_true, and_self, Int.toNat_natCast, Nat.reduceAdd, Nat.reduceLeDiff, Nat.reduceLT, forall_eq', Option.some.injEq, zarR, zarI, zarL, zle, zq0, zq1, zq2, zq3, zq4, zq5, zq6, zq8, zq9, zq10, zq20, zq7, zq12, zq24, zq40, zq41, zq48, zq100, zq120, zq123, zq480, zq492, zq700, zq729, zq2187, zq2916, zq8748, ne_eq, Int.reduceEq, Int.reduceLT, Int.reduceLE, Int.reduceToNat, Int.reduceMul, Int.reduceAdd, Int.reduceNeg, gk91 hg, gr91_5 hg, gr91_22 hg, gr91_23 hg, gr91_24 hg, gr91_25 hg, gr91_26 hg, gr91_27 hg, gr91_28 hg, gr91_29 hg, gr91_32 hg, gr91_33 hg, gr91_34 hg, gr91_35 hg, gr91_36 hg, gr91_37 hg, gr91_38 hg, gr91_39 hg, gr91_40 hg, gr91_41 hg, gr91_42 hg, gr91_44 hg, gr91_45 hg, gr91_46 hg, gr91_48 hg, gr91_49 hg, gr91_50 hg, gr91_51 hg, gr91_52 hg]
        have cb := calm_b (ac := ac) (nb := nB T) (w := rW T ac nn nf 2 (nx T ac nn nf hd all)) tb.1
        have e12 : ∀ b, b < 3 → zcp h4 114 0 112 0 3 112 b = eE T ac nn nf hd all b := by
          intro b q
          have := zcp_i (h := h4) (a := 114) (sp := 0) (b := 112) (dp := 0) (n := 3) (i := b) q
          rw [Nat.zero_add] at this
          rw [this, p9 _ _ (by omega)]
          exact e13 b q
        have G5 : ∀ c i, ¬ c = 94 → ¬ c = 95 → c < 96 ∨ 99 < c → c < 112 ∨ 114 < c → ¬ (c = 91 ∧ i = 43) → ¬ (c = 110 ∧ i < 12 * 3) → ¬ (c = 111 ∧ i < (2 + 1) * 2187) → zcp h4 114 0 112 0 3 c i = h1 c i := fun c i q1 q2 q3 q4 q5 q6 q7 => by rw [zcp_c (by omega), p0 c i q1 q2 q3 q4 q5 (by omega) q7]; exact G3 c i q1 q2 q3 (by omega) (by omega)
        have pV5 : rV (zcp h4 114 0 112 0 3) u T := rV_frame hP1.1 (fun c i q => G5 c i (by omega) (by omega) (by omega) (by omega) (by omega) (by omega) (by omega)) (fun i => G5 _ _ (by decide) (by decide) (by omega) (by omega) (by omega) (by omega) (by omega)) (fun i q1 q2 => G5 _ _ (by decide) (by decide) (by omega) (by omega) (by omega) (by omega) (by omega))
        have W5 : ∀ b, b < nB T → zcp h4 114 0 112 0 3 111 ((2 * 729 + calm ac (nB T) (rW T ac nn nf 2 (nx T ac nn nf hd all))) * 3 + b) = vV T ac nn nf 2 (nx T ac nn nf hd all) b := fun b q => by rw [zcp_c (by decide), p1 _ b cb q]; rfl
        have O5 : ∀ c i, c = 113 ∧ c = 114 → zcp h4 114 0 112 0 3 c i = h c i := fun c i q => by rw [zcp_c (by omega), p9 _ _ (by omega), G3 _ _ (by omega) (by omega) (by omega) (by omega) (by omega)]; exact f9 c i q
        have U5 : zcp h4 114 0 112 0 3 91 43 = h4 91 43 := zcp_c (by decide)
        have U3 : h3 91 43 = h1 91 43 := G3 91 43 (by decide) (by decide) (by omega) (by omega) (by omega)
        clear cp2
        generalize zcp h4 114 0 112 0 3 = h5 at *
        have bv : ∀ b, -10000000000 ≤ vV T ac nn nf 2 (nx T ac nn nf hd all) b ∧ vV T ac nn nf 2 (nx T ac nn nf hd all) b ≤ 10000000000 := by
          intro b
          have r1 : -(1592000000 * ((2 : Nat) : Int)) ≤ vV T ac nn nf 2 (nx T ac nn nf hd all) b ∧ vV T ac nn nf 2 (nx T ac nn nf hd all) b ≤ 1592000000 * ((2 : Nat) : Int) := rW_b hw (ac := ac) hf 2 bb (by omega) (by omega) _ b
          omega
        refine m_puts (d := d + 8) (m := 2) (tv := vV T ac nn nf 2 (nx T ac nn nf hd all)) hg hu pV5 hw hc (by decide) (by omega) (Or.inr ⟨_, rfl, cb, W5⟩) (fun b => bv b) (fun b q => by rw [e12 b (by omega)]; exact ebd all b) ?_
        intro h6 s0 s1
        simp only [e184_0, e184_1, e184_4, e184_5, e184_6, e184_8, e184_9, e184_12, e184_13, e184_14, e184_15, e184_18, e184_19, e184_21, e184_22, e184_25, e184_26, e184_29, e184_30, e184_31, e184_34, e184_35, e184_36, e184_37, e184_40, e184_43, e184_44, e184_47, e184_48, e184_49, e184_53, e184_54, e184_57, e184_58, e184_61, e184_63, e184_64, e184_67, e184_69, e184_70, e184_71, e184_74, e184_77, e184_78, e184_79, e184_80, e184_81, e184_84, e184_87, e184_90, e184_91, e184_92, e184_95, zs0, zsI, zsL, zsR, ztl1, ztl0, zc0, zcI, zcL, zcR, true_and, and_true, true_implies, false_implies, implies_true, not_true_eq_false, not_false_eq_true, and_self, Int.toNat_natCast, Nat.reduceAdd, Nat.reduceLeDiff, Nat.reduceLT, forall_eq', Option.some.injEq, zarR, zarI, zarL, zle, zq0, zq1, zq2, zq3, zq4, zq5, zq6, zq8, zq9, zq10, zq20, zq7, zq12, zq24, zq40, zq41, zq48, zq100, zq120, zq123, zq480, zq492, zq700, zq729, zq2187, zq2916, zq8748, ne_eq, Int.reduceEq, Int.reduceLT, Int.reduceLE, Int.reduceToNat, Int.reduceMul, Int.reduceAdd, Int.reduceNeg, wr_s (show all < 2147483647 by omega)]
        apply ih (all + 1) h6 _ _ (by omega)
        · intro c i q1 q2 q3 q4 q5 q6 q7
          rw [s0 c i (by omega), G5 c i q1 q2 q3 q4 q5 q6 (by omega)]
          exact f0 c i q1 q2 q3 q4 q5 q6 q7
        · intro c i q
          rw [s0 c i (by omega)]
          exact O5 c i q
        · rw [s0 _ _ (by omega), U5]
          exact p2
        · rw [s0 _ _ (by omega), U5, p3, U3, fW]
          constructor
          · rintro ((q | ⟨a, qa, qb⟩) | q)
            · exact Or.inl q
            · exact Or.inr ⟨a, by omega, qb⟩
            · exact Or.inr ⟨all, by omega, q⟩
          · rintro (q | ⟨a, qa, qb⟩)
            · exact Or.inl (Or.inl q)
            · by_cases q4 : a = all
              · subst q4
                exact Or.inr qb
              · exact Or.inl (Or.inr ⟨a, by omega, qb⟩)
        · intro a b q1 q2
          by_cases q3 : a = all
          · subst q3
            rw [s1 b q2, e12 b (by omega), rW_s, if_neg (by decide)]
          · rw [s0 _ _ (by omega), G5 _ _ (by decide) (by decide) (by omega) (by omega) (by omega) (by omega) (by omega)]
            exact f1 a b (by omega) q2
  simp only [e184_0, e184_1, e184_4, e184_5, e184_6, e184_8, e184_9, e184_12, e184_13, e184_14, e184_15, e184_18, e184_19, e184_21, e184_22, e184_25, e184_26, e184_29, e184_30, e184_31, e184_34, e184_35, e184_36, e184_37, e184_40, e184_43, e184_44, e184_47, e184_48, e184_49, e184_53, e184_54, e184_57, e184_58, e184_61, e184_63, e184_64, e184_67, e184_69, e184_70, e184_71, e184_74, e184_77, e184_78, e184_79, e184_80, e184_81, e184_84, e184_87, e184_90, e184_91, e184_92, e184_95, zs0, zsI, zsL, zsR, ztl1, ztl0, zc0, zcI, zcL, zcR, true_and, and_true, true_implies, false_implies, implies_true, not_true_eq_false, not_false_eq_true, and_self, Int.toNat_natCast, Nat.reduceAdd, Nat.reduceLeDiff, Nat.reduceLT, forall_eq', Option.some.injEq, zarR, zarI, zarL, zle, zq0, zq1, zq2, zq3, zq4, zq5, zq6, zq8, zq9, zq10, zq20, zq7, zq12, zq24, zq40, zq41, zq48, zq100, zq120, zq123, zq480, zq492, zq700, zq729, zq2187, zq2916, zq8748, ne_eq, Int.reduceEq, Int.reduceLT, Int.reduceLE, Int.reduceToNat, Int.reduceMul, Int.reduceAdd, Int.reduceNeg, gk91 hg, gr91_5 hg, gr91_22 hg, gr91_23 hg, gr91_24 hg, gr91_25 hg, gr91_26 hg, gr91_27 hg, gr91_28 hg, gr91_29 hg, gr91_32 hg, gr91_33 hg, gr91_34 hg, gr91_35 hg, gr91_36 hg, gr91_37 hg, gr91_38 hg, gr91_39 hg, gr91_40 hg, gr91_41 hg, gr91_42 hg, gr91_44 hg, gr91_45 hg, gr91_46 hg, gr91_48 hg, gr91_49 hg, gr91_50 hg, gr91_51 hg, gr91_52 hg, q0]
  refine lp (tg ac (nB T)) 0 h _ _ (by omega) (fun _ _ _ _ _ _ _ _ _ => rfl) (fun _ _ _ => rfl) pU ?_ (fun a b q => by omega)
  constructor
  · exact Or.inl
  · rintro (q | ⟨a, q, _⟩)
    · exact q
    · omega
end RR
