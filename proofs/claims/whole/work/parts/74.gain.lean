/-! what a baker earns in a year alone -/
def up (p : Nat → Int) (b : Nat) (v : Int) : Nat → Int := fun t => if t = b then v else p t
theorem up_b {p : Nat → Int} (hp : bP p) (b : Nat) {v : Int} (hv : 0 ≤ v ∧ v ≤ 199) : bP (up p b v) := by
  intro i
  unfold up
  split
  · exact hv
  · exact hp i
def eB (T : aTn) (od nw : Nat → Nat) (hd : Nat → Nat → Int) (b o n : Nat) : Int := aEarS T (up (pO T od) b (tr T 8 o)) (up (pO T nw) b (tr T 8 n)) (aN hd (nn0 T) (nf0 T)) (aTo T (up (pO T od) b (tr T 8 o)) (up (pO T nw) b (tr T 8 n))) b (nS T)
theorem bX_le (w : Nat → Int) (k : Nat) : (bX w k).2 ≤ k ∧ (bX w k).1 = w (bX w k).2 := by
  induction k with
  | zero => exact ⟨Nat.le_refl _, rfl⟩
  | succ k ih =>
    unfold bX
    split
    · exact ⟨Nat.le_refl _, rfl⟩
    · exact ⟨by omega, ih.2⟩
section GA
variable {d : Nat} {Q : zQ} {G : zG} {h : zM} {T : aTn} {u Y b : Nat} {od nw : Nat → Nat} {hd : Nat → Nat → Int} {B : Int}
theorem eB_b (hw : wT T) (b1 : hB hd B) (b3 : B + 100 ≤ 2000000) (o n : Nat) : -1592000000 ≤ eB T od nw hd b o n ∧ eB T od nw hd b o n ≤ 1592000000 := by
  have p8 := fun i => (hw.2.2.2.2.2 i).2.2.2.2.2.2.2.2
  have hs := hw.2.1
  have := aEarS_t (to := aTo T (up (pO T od) b (tr T 8 o)) (up (pO T nw) b (tr T 8 n))) hw (aN_ok b1 (fB00 hw) b3) (up_b (pO_b hw od) b (p8 o)) (up_b (pO_b hw nw) b (p8 n)) b (nS T)
  unfold eB
  omega
theorem c_earnedBy (hg : gS G) (kt : kT h 18 T) (hw : wT T) (ho : ∀ t, t < nB T → ¬ t = b → h 28 t = pO T od t) (hn : ∀ t, t < nB T → ¬ t = b → h 29 t = pO T nw t) (h31 : ∀ s, s < nS T → h 31 s = nn0 T s) (h32 : ∀ s, s < nS T → h 32 s = nf0 T s) (hY : h 38 0 = (Y : Int)) (h40 : Y ≤ 40) (b1 : hB hd B) (b3 : B + 100 ≤ 2000000) (h20 : nB T = 2 → ∀ s, hd s 2 = 0) (hh : ∀ s k, s < nS T → k < 3 → h 39 (Y * 12 + k * 4 + s) = hd s k) (hb : b < nB T) {a : Nat} (ha : a < nA T) (K : ∀ h' : zM, (∀ c i, ¬ (c = 28 ∧ i = b) → ¬ (c = 29 ∧ i = b) → ¬ c = 30 → ¬ (c = 17 ∧ i = 4) → ¬ c = 45 → c < 33 ∨ 37 < c → h' c i = h c i) → Q (some (zL (eB T od nw hd b (aOld T a) (aNw T a)))) G h') : zRunD ztb zmt' (d + 5) 79 [zR (some 0), zI b, zI a] G h Q := by
  rw [r79]
  have hb3 := hw.1
  have hs4 := hw.2.1
  have hp3 := hw.2.2.1
  have na := nA_b hw
  have p8 := fun i => (hw.2.2.2.2.2 i).2.2.2.2.2.2.2.2
  have o1 := aOld_b hw ha
  have n1 := aNw_b hw ha
  have co := fun Q' => c_old16 (d := d + 3) (Q := Q') (h := h) (T := T) (a := a) hg kt (by omega) (by omega)
  have cn := fun Q' => c_new16 (d := d + 3) (Q := Q') (h := h) (T := T) (a := a) hg kt (by omega)
  have sp := fun Q' => c_setP16 (d := d + 3) (Q := Q') (h := h) hg (b := b) (o := aOld T a) (n := aNw T a) (by omega) (by omega) (by omega)
  have e1 := kt.2.2.2.2.2.2.2.2.2.2.2.2.2 (aOld T a) o1
  have e2 := kt.2.2.2.2.2.2.2.2.2.2.2.2.2 (aNw T a) n1
  simp only [e79_0, e79_1, e79_4, e79_5, e79_6, e79_9, e79_10, e79_13, e79_14, e79_17, e79_18, e79_21, e79_24, e79_25, e79_28, e79_29, e79_32, e79_33, zs0, zsI, zsL, zsR, ztl1, ztl0, zc0, zcI, zcL, zcR, true_and, and_true, true_implies, false_implies, implies_true, not_true_eq_false, not_false_eq_true, and_self, Int.toNat_natCast, Nat.reduceAdd, Nat.reduceLeDiff, Nat.reduceLT, forall_eq', Option.some.injEq, zarR, zarI, zarL, zle, zq0, zq1, zq2, zq3, zq4, zq5, zq6, zq8, zq9, zq10, zq20, zq7, zq12, zq24, zq40, zq41, zq48, zq100, zq120, zq123, zq480, zq492, zq700, zq729, zq2187, zq2916, zq8748, ne_eq, Int.reduceEq, Int.reduceLT, Int.reduceLE, Int.reduceToNat, Int.reduceMul, Int.reduceAdd, Int.reduceNeg, gk0 hg, gr0_0 hg, gr0_2 hg, gr0_3 hg, gr0_4 hg, gr0_5 hg, gr0_6 hg, gr0_7 hg, gr0_8 hg, gr0_9 hg, gr0_10 hg, gk17 hg, gr17_0 hg, gr17_1 hg, gr17_2 hg, gr17_3 hg, gk18 hg, gr18_0 hg, gr18_1 hg, gr18_2 hg, gr18_3 hg, gr18_4 hg, gr18_5 hg, gr18_6 hg, gr18_7 hg, gr18_8 hg, co, cn, sp]
  rw [e1, e2]
  have bo := up_b (pO_b hw od) b (p8 (aOld T a))
  have bn := up_b (pO_b hw nw) b (p8 (aNw T a))
  obtain ⟨own, hown⟩ : ∃ p, p = up (pO T od) b (tr T 8 (aOld T a)) := ⟨_, rfl⟩
  obtain ⟨oth, hoth⟩ : ∃ p, p = up (pO T nw) b (tr T 8 (aNw T a)) := ⟨_, rfl⟩
  have fr0 : ∀ c i, ¬ (c = 28 ∧ i = b) → ¬ (c = 29 ∧ i = b) → (zu (zu h 28 b (tr T 8 (aOld T a))) 29 b (tr T 8 (aNw T a))) c i = h c i := fun c i q1 q2 => by rw [zu, if_neg q2, zu, if_neg q1]
  have ho' : ∀ t, t < nB T → (zu (zu h 28 b (tr T 8 (aOld T a))) 29 b (tr T 8 (aNw T a))) 28 t = own t := by
    intro t ht
    rw [zu_c (by decide), hown]
    unfold up
    by_cases q : t = b
    · rw [if_pos q, q, zu_at]
    · rw [if_neg q, zu_i q]; exact ho t ht q
  have hn' : ∀ t, t < nB T → (zu (zu h 28 b (tr T 8 (aOld T a))) 29 b (tr T 8 (aNw T a))) 29 t = oth t := by
    intro t ht
    rw [hoth]
    unfold up
    by_cases q : t = b
    · rw [if_pos q, q, zu_at]
    · rw [if_neg q, zu_i q, zu_c (by decide)]; exact hn t ht q
  rw [← hown] at bo
  rw [← hoth] at bn
  generalize (zu (zu h 28 b (tr T 8 (aOld T a))) 29 b (tr T 8 (aNw T a))) = h1 at fr0 ho' hn' ⊢
  have kt1 : kT h1 18 T := kT_frame kt (fun c i q1 q2 => fr0 c i (by omega) (by omega))
  rw [show (0 : Int) = ((0 : Nat) : Int) from rfl]
  apply c_chAll16 (d := d) hg kt1 hw ho' hn' bo bn (r := 45) (by decide) (gk45 hg) (by rw [gl45 hg]; omega) (by rw [gl45 hg]; decide)
  intro h2 f2 a2
  have kt2 : kT h2 18 T := kT_frame kt1 (fun c i q1 q2 => f2 c i (by omega) (by omega) (by omega))
  have f2' : ∀ c i, ¬ (c = 28 ∧ i = b) → ¬ (c = 29 ∧ i = b) → ¬ c = 30 → ¬ (c = 17 ∧ i = 4) → ¬ c = 45 → h2 c i = h c i := fun c i q1 q2 q3 q4 q5 => by rw [f2 c i q3 q4 (by omega), fr0 c i q1 q2]
  have hY2 : h2 38 0 = (Y : Int) := by rw [f2' _ _ (by omega) (by omega) (by omega) (by omega) (by omega)]; exact hY
  have w1 : wr ((Y : Int) * 12) = ((Y * 12 : Nat) : Int) := wrN (by omega) (by omega)
  have nok := aN_ok b1 (fB00 hw) b3
  simp only [e79_36, e79_37, e79_40, e79_41, e79_44, e79_47, e79_48, e79_51, e79_54, e79_56, e79_57, e79_58, e79_61, e79_62, zs0, zsI, zsL, zsR, ztl1, ztl0, zc0, zcI, zcL, zcR, true_and, and_true, true_implies, false_implies, implies_true, not_true_eq_false, not_false_eq_true, and_self, Int.toNat_natCast, Nat.reduceAdd, Nat.reduceLeDiff, Nat.reduceLT, forall_eq', Option.some.injEq, zarR, zarI, zarL, zle, zq0, zq1, zq2, zq3, zq4, zq5, zq6, zq8, zq9, zq10, zq20, zq7, zq12, zq24, zq40, zq41, zq48, zq100, zq120, zq123, zq480, zq492, zq700, zq729, zq2187, zq2916, zq8748, ne_eq, Int.reduceEq, Int.reduceLT, Int.reduceLE, Int.reduceToNat, Int.reduceMul, Int.reduceAdd, Int.reduceNeg, gk0 hg, gr0_0 hg, gr0_2 hg, gr0_3 hg, gr0_4 hg, gr0_5 hg, gr0_6 hg, gr0_7 hg, gr0_8 hg, gr0_9 hg, gr0_10 hg, gk16 hg, gr16_0 hg, gr16_1 hg, gr16_2 hg, gr16_3 hg, gr16_4 hg, gr16_5 hg, gr16_6 hg, gr16_7 hg, gr16_8 hg, gk38 hg, gr38_1 hg, gr38_2 hg, gr38_3 hg, gr38_4 hg, gr38_5 hg, gr38_6 hg, hY2, w1]
  rw [show (0 : Int) = ((0 : Nat) : Int) from rfl]
  apply c_pass16 (d := d + 2) (n := aN hd (nn0 T) (nf0 T)) (to := aTo T own oth) (own := own) (oth := oth) hg kt2 hw (fun t ht => by rw [f2 _ _ (by omega) (by omega) (by omega)]; exact ho' t ht) (fun t ht => by rw [f2 _ _ (by omega) (by omega) (by omega)]; exact hn' t ht) bo bn nok (gk39 hg) (by rw [gl39 hg]; omega) (by omega) (by omega) (gk45 hg) (by rw [gl45 hg]; omega) (by omega) (by omega)
  · intro s k q1 q2
    rw [f2' _ _ (by omega) (by omega) (by omega) (by omega) (by omega), hh s k q1 q2]
    unfold aN
    rw [if_pos q2]
  · intro s q
    rw [f2' _ _ (by omega) (by omega) (by omega) (by omega) (by omega), h31 s q]
    rfl
  · intro s q
    rw [f2' _ _ (by omega) (by omega) (by omega) (by omega) (by omega), h32 s q]
    rfl
  · intro s k q1 q2 q3
    rw [a2 s q1]
    apply aPk_to hw
    by_cases q4 : k = 2 ∧ nB T = 2
    · have q5 : aN hd (nn0 T) (nf0 T) s 2 = hd s 2 := rfl
      rw [q4.1, q5, h20 q4.2 s] at q3
      omega
    · omega
  · intro s k q1 q2 q3
    by_cases q4 : k = 2 ∧ nB T = 2
    · have q5 : aN hd (nn0 T) (nf0 T) s 2 = hd s 2 := rfl
      rw [q4.1, q5, h20 q4.2 s] at q3
      omega
    · have z2 := aCh_b hw (own := own) (oth := oth) (s := s) (far := 0) (f := 3) (Or.inl rfl)
      have z4 := aCh_b hw (own := own) (oth := oth) (s := s) (far := 1) (f := 3) (Or.inl rfl)
      unfold aTo
      split
      · have z1 := aCh_b hw (own := own) (oth := oth) (s := s) (far := tr T 7 s) (f := k) (Or.inr (by omega))
        omega
      · split <;> omega
  · intro h3 g0 g1 g2 g3 g4
    have b3' : (b : Int) < 3 := by omega
    have ev := g3 b (by omega)
    simp only [e79_0, e79_1, e79_4, e79_5, e79_6, e79_9, e79_10, e79_13, e79_14, e79_17, e79_18, e79_21, e79_24, e79_25, e79_28, e79_29, e79_32, e79_33, e79_36, e79_37, e79_40, e79_41, e79_44, e79_47, e79_48, e79_51, e79_54, e79_56, e79_57, e79_58, e79_61, e79_62, e79_65, e79_66, e79_69, e79_72, e79_73, e79_74, zs0, zsI, zsL, zsR, ztl1, ztl0, zc0, zcI, zcL, zcR, true_and, and_true, true_implies, false_implies, implies_true, not_true_eq_false, not_false_eq_true, and_self, Int.toNat_natCast, Nat.reduceAdd, Nat.reduceLeDiff, Nat.reduceLT, forall_eq', Option.some.injEq, zarR, zarI, zarL, zle, zq0, zq1, zq2, zq3, zq4, zq5, zq6, zq8, zq9, zq10, zq20, zq7, zq12, zq24, zq40, zq41, zq48, zq100, zq120, zq123, zq480, zq492, zq700, zq729, zq2187, zq2916, zq8748, ne_eq, Int.reduceEq, Int.reduceLT, Int.reduceLE, Int.reduceToNat, Int.reduceMul, Int.reduceAdd, Int.reduceNeg, gk0 hg, gr0_0 hg, gr0_2 hg, gr0_3 hg, gr0_4 hg, gr0_5 hg, gr0_6 hg, gr0_7 hg, gr0_8 hg, gr0_9 hg, gr0_10 hg, gk16 hg, gr16_0 hg, gr16_1 hg, gr16_2 hg, gr16_3 hg, gr16_4 hg, gr16_5 hg, gr16_6 hg, gr16_7 hg, gr16_8 hg, gk34 hg, gl34 hg, or_true, true_or, if_true, if_false, false_and, and_false, false_or, or_false, b3', ev]
    have kk := K h3 (fun c i q1 q2 q3 q4 q5 q6 => by rw [g0 c i (by omega), f2' c i q1 q2 q3 q4 q5])
    unfold eB at kk
    rw [← hown, ← hoth] at kk
    exact kk
theorem m_earnsBy (hg : gS G) (hu : gU G u) (V : rV h u T) (rt : rT h u T) (hw : wT T) (h19 : h 91 19 = -1) (h100 : ∀ s, s < nS T → h 100 s = tr T 3 s) (hod : ∀ b, b < nB T → h 102 b = (od b : Int) ∧ od b < nP T) (hnw : ∀ b, b < nB T → h 103 b = (nw b : Int) ∧ nw b < nP T) (b1 : hB hd B) (b3 : B + 100 ≤ 2000000) (h20 : nB T = 2 → ∀ s, hd s 2 = 0) (hh : ∀ s k, s < nS T → k < nB T → h 101 (3 * s + k) = hd s k) (hb : b < nB T) {o n : Nat} (ho : o < nP T) (hn : n < nP T) (K : ∀ h' : zM, (∀ c i, c < 94 ∨ c = 100 ∨ c = 101 ∧ i < 12 ∨ 101 < c → h' c i = h c i) → Q (some (zI (eB T od nw hd b o n))) G h') : zRunD ztb zmt' (d + 8) 190 [zR (some 91), zI b, zI o, zI n] G h Q := by
  rw [r190]
  have hb3 := hw.1
  have hs4 := hw.2.1
  have hp3 := hw.2.2.1
  have u1 := hu.1
  have p8 := fun i => (hw.2.2.2.2.2 i).2.2.2.2.2.2.2.2
  have bo := up_b (pO_b hw od) b (p8 o)
  have bn := up_b (pO_b hw nw) b (p8 n)
  simp only [e190_0, e190_1, zs0, zsI, zsL, zsR, ztl1, ztl0, zc0, zcI, zcL, zcR, true_and, and_true, true_implies, false_implies, implies_true, not_true_eq_false, not_false_eq_true, and_self, Int.toNat_natCast, Nat.reduceAdd, Nat.reduceLeDiff, Nat.reduceLT, forall_eq', Option.some.injEq, zarR, zarI, zarL, zle, zq0, zq1, zq2, zq3, zq4, zq5, zq6, zq8, zq9, zq10, zq20, zq7, zq12, zq24, zq40, zq41, zq48, zq100, zq120, zq123, zq480, zq492, zq700, zq729, zq2187, zq2916, zq8748, ne_eq, Int.reduceEq, Int.reduceLT, Int.reduceLE, Int.reduceToNat, Int.reduceMul, Int.reduceAdd, Int.reduceNeg, gk91 hg, gr91_5 hg, gr91_22 hg, gr91_23 hg, gr91_24 hg, gr91_25 hg, gr91_26 hg, gr91_27 hg, gr91_28 hg, gr91_29 hg, gr91_32 hg, gr91_33 hg, gr91_34 hg, gr91_35 hg, gr91_36 hg, gr91_37 hg, gr91_38 hg, gr91_39 hg, gr91_40 hg, gr91_41 hg, gr91_42 hg, gr91_44 hg, gr91_45 hg, gr91_46 hg, gr91_48 hg, gr91_49 hg, gr91_50 hg, gr91_51 hg, gr91_52 hg]
  apply m_asked (d := d + 6) hg hu rt hw hod hnw
  intro h1 f1 o1 n1
  have b3' : (b : Int) < 3 := by omega
  have o3 : (o : Int) < 3 := by omega
  have n3 : (n : Int) < 3 := by omega
  have e1 : h1 (u + 4) o = tr T 8 o := by rw [f1 _ _ (by omega) (by omega)]; exact rt.2.2.2.2.2.2.2.2.1 o ho
  have e2 : h1 (u + 4) n = tr T 8 n := by rw [f1 _ _ (by omega) (by omega)]; exact rt.2.2.2.2.2.2.2.2.1 n hn
  have u4 : ¬ u + 4 = 94 := by omega
  simp only [e190_4, e190_5, e190_8, e190_9, e190_10, e190_13, e190_16, e190_17, e190_18, e190_19, e190_20, e190_23, e190_24, e190_25, e190_28, e190_31, e190_32, e190_33, e190_34, e190_35, e190_36, e190_39, e190_40, e190_42, zs0, zsI, zsL, zsR, ztl1, ztl0, zc0, zcI, zcL, zcR, true_and, and_true, true_implies, false_implies, implies_true, not_true_eq_false, not_false_eq_true, and_self, Int.toNat_natCast, Nat.reduceAdd, Nat.reduceLeDiff, Nat.reduceLT, forall_eq', Option.some.injEq, zarR, zarI, zarL, zle, zq0, zq1, zq2, zq3, zq4, zq5, zq6, zq8, zq9, zq10, zq20, zq7, zq12, zq24, zq40, zq41, zq48, zq100, zq120, zq123, zq480, zq492, zq700, zq729, zq2187, zq2916, zq8748, ne_eq, Int.reduceEq, Int.reduceLT, Int.reduceLE, Int.reduceToNat, Int.reduceMul, Int.reduceAdd, Int.reduceNeg, gk91 hg, gr91_5 hg, gr91_22 hg, gr91_23 hg, gr91_24 hg, gr91_25 hg, gr91_26 hg, gr91_27 hg, gr91_28 hg, gr91_29 hg, gr91_32 hg, gr91_33 hg, gr91_34 hg, gr91_35 hg, gr91_36 hg, gr91_37 hg, gr91_38 hg, gr91_39 hg, gr91_40 hg, gr91_41 hg, gr91_42 hg, gr91_44 hg, gr91_45 hg, gr91_46 hg, gr91_48 hg, gr91_49 hg, gr91_50 hg, gr91_51 hg, gr91_52 hg, gk94 hg, gl94 hg, gk95 hg, gl95 hg, hu, b3', o3, n3, e1, zu_c u4, e2]
  have fr0 : ∀ c i, ¬ (c = 94 ∧ i = b) → ¬ (c = 95 ∧ i = b) → (zu (zu h1 94 b (tr T 8 o)) 95 b (tr T 8 n)) c i = h1 c i := fun c i q1 q2 => by rw [zu, if_neg q2, zu, if_neg q1]
  have ho' : ∀ t, t < nB T → (zu (zu h1 94 b (tr T 8 o)) 95 b (tr T 8 n)) 94 t = up (pO T od) b (tr T 8 o) t := by
    intro t ht
    rw [zu_c (by decide)]
    unfold up
    by_cases q : t = b
    · rw [if_pos q, q, zu_at]
    · rw [if_neg q, zu_i q]; exact o1 t ht
  have hn' : ∀ t, t < nB T → (zu (zu h1 94 b (tr T 8 o)) 95 b (tr T 8 n)) 95 t = up (pO T nw) b (tr T 8 n) t := by
    intro t ht
    unfold up
    by_cases q : t = b
    · rw [if_pos q, q, zu_at]
    · rw [if_neg q, zu_i q, zu_c (by decide)]; exact n1 t ht
  generalize (zu (zu h1 94 b (tr T 8 o)) 95 b (tr T 8 n)) = h2 at fr0 ho' hn' ⊢
  have f2 : ∀ c i, ¬ c = 94 → ¬ c = 95 → h2 c i = h c i := fun c i q1 q2 => by rw [fr0 c i (by omega) (by omega), f1 c i q1 q2]
  have V2 : rV h2 u T := rV_frame V (fun c i q => f2 c i (by omega) (by omega)) (fun i => f2 _ _ (by omega) (by omega)) (fun i _ _ => f2 _ _ (by omega) (by omega))
  have e19 : h2 91 19 = -1 := by rw [f2 _ _ (by omega) (by omega)]; exact h19
  have e100 : ∀ s, s < nS T → h2 100 s = tr T 3 s := fun s hs => by rw [f2 _ _ (by omega) (by omega)]; exact h100 s hs
  have nok := aN_ok b1 (fB00 hw) b3
  rw [show (0 : Int) = ((0 : Nat) : Int) from rfl, show (12 : Int) = ((12 : Nat) : Int) from rfl]
  apply m_goes (d := d) (own := up (pO T od) b (tr T 8 o)) (oth := up (pO T nw) b (tr T 8 n)) (n := aN hd (nn0 T) (nf0 T)) hg hu V2 hw ho' hn' bo bn nok (by decide) (gk101 hg) (by rw [gl101 hg]; decide) (by rw [gl101 hg]; decide) (by decide) (by decide)
  · intro s k q1 q2
    rw [f2 _ _ (by omega) (by omega), Nat.zero_add, hh s k q1 q2]
    unfold aN
    rw [if_pos (by omega)]
  · intro q s
    exact h20 q s
  · intro s q
    rw [e19, if_pos rfl, e100 s q]
    show nf0 T s = _
    unfold nf0
    rcases (hw.2.2.2.2.2 s).2.2.2.2.2.2.2.1 with b7 | b7
    · rw [if_pos b7, if_neg (by omega)]
    · rw [if_pos b7, if_neg (by omega)]
  · intro s q
    rw [e100 s q]
    rfl
  · intro s q
    have := (hw.2.2.2.2.2 s).2.2.2.1
    rw [e100 s q]
    omega
  · rw [e19]
    decide
  · intro h3 g0 g1 g2 g3 g4
    have ev := g3 b (by omega)
    simp only [e190_0, e190_1, e190_4, e190_5, e190_8, e190_9, e190_10, e190_13, e190_16, e190_17, e190_18, e190_19, e190_20, e190_23, e190_24, e190_25, e190_28, e190_31, e190_32, e190_33, e190_34, e190_35, e190_36, e190_39, e190_40, e190_42, e190_45, e190_46, e190_49, e190_50, e190_51, zs0, zsI, zsL, zsR, ztl1, ztl0, zc0, zcI, zcL, zcR, true_and, and_true, true_implies, false_implies, implies_true, not_true_eq_false, not_false_eq_true, and_self, Int.toNat_natCast, Nat.reduceAdd, Nat.reduceLeDiff, Nat.reduceLT, forall_eq', Option.some.injEq, zarR, zarI, zarL, zle, zq0, zq1, zq2, zq3, zq4, zq5, zq6, zq8, zq9, zq10, zq20, zq7, zq12, zq24, zq40, zq41, zq48, zq100, zq120, zq123, zq480, zq492, zq700, zq729, zq2187, zq2916, zq8748, ne_eq, Int.reduceEq, Int.reduceLT, Int.reduceLE, Int.reduceToNat, Int.reduceMul, Int.reduceAdd, Int.reduceNeg, gk91 hg, gr91_5 hg, gr91_22 hg, gr91_23 hg, gr91_24 hg, gr91_25 hg, gr91_26 hg, gr91_27 hg, gr91_28 hg, gr91_29 hg, gr91_32 hg, gr91_33 hg, gr91_34 hg, gr91_35 hg, gr91_36 hg, gr91_37 hg, gr91_38 hg, gr91_39 hg, gr91_40 hg, gr91_41 hg, gr91_42 hg, gr91_44 hg, gr91_45 hg, gr91_46 hg, gr91_48 hg, gr91_49 hg, gr91_50 hg, gr91_51 hg, gr91_52 hg, gk96 hg, gl96 hg, or_true, true_or, if_true, if_false, false_and, and_false, false_or, or_false, b3', ev]
    exact K h3 (fun c i q => by rw [g0 c i (by omega) (by omega) (by omega) (by omega) (by omega), f2 c i (by omega) (by omega)])
end GA
