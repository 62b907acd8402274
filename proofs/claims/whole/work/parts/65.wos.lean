/-! promises, shapes, those who come late -/
def acP (T : aTn) (b0 st : Nat) (b : Nat) : Nat := if b = b0 then aOf T st (nP T - 1) + 1 else nA T
theorem acP_ok {T : aTn} (hw : wT T) {b0 st : Nat} (hs : st < nP T) : acOk T (acP T b0 st) := by
  intro b
  have h1 := nA_b hw
  have hp := hw.2.2.1
  unfold acP
  split
  · unfold aOf nA
    have q : nP T = 1 ∨ nP T = 2 ∨ nP T = 3 := by omega
    split
    · rcases q with q | q | q <;> rw [q] at hs ⊢ <;> omega
    · omega
  · omega
theorem acP_rA {T : aTn} (hw : wT T) {b0 st : Nat} (hs : st < nP T) {h : zM} (h20 : h 91 20 = (b0 : Int)) (h21 : h 91 21 = (st : Int)) : rA h T (acP T b0 st) := by
  have hp := hw.2.2.1
  intro b hb
  rw [h20, h21]
  refine ⟨?_, by omega, by omega⟩
  unfold acP aOf nA
  by_cases q : b = b0
  · rw [if_pos (by omega), if_pos q]
    rcases hw.2.2.2.1 with t | t
    · rw [if_pos t, if_neg (by omega)]
      omega
    · rw [if_neg (by omega), if_pos t]
      have e : st * nP T + (nP T - 1) + 1 = (st + 1) * nP T := by rw [Nat.add_mul]; omega
      rw [e, Int.natCast_mul]
      rfl
  · rw [if_neg (by omega), if_neg q]
    rcases hw.2.2.2.1 with t | t
    · rw [if_pos t, if_neg (by omega), Int.mul_one]
    · rw [if_neg (by omega), if_pos t, Int.natCast_mul]
/-- a baker fits otherwise -/
def aFt (T : aTn) (b : Nat) (v : Int) : aTn := (T.1, T.2.1, T.2.2.1, T.2.2.2.1, T.2.2.2.2.1, fun j i => if j = 1 ∧ i = b then v else T.2.2.2.2.2 j i)
theorem aFt_1 {T : aTn} {b : Nat} {v : Int} {i : Nat} : tr (aFt T b v) 1 i = if i = b then v else tr T 1 i := by
  unfold tr aFt
  dsimp only
  by_cases h : i = b
  · rw [if_pos h, if_pos ⟨rfl, h⟩]
  · rw [if_neg h, if_neg (fun q => h q.2)]
theorem aFt_s {T : aTn} {b : Nat} {v : Int} {j i : Nat} (hj : ¬ j = 1) : tr (aFt T b v) j i = tr T j i := by
  unfold tr aFt
  dsimp only
  rw [if_neg (fun q => hj q.1)]
theorem aFt_w {T : aTn} (hw : wT T) {b : Nat} {v : Int} (hv : 0 ≤ v ∧ v ≤ 9) : wT (aFt T b v) := by
  refine ⟨hw.1, hw.2.1, hw.2.2.1, hw.2.2.2.1, hw.2.2.2.2.1, fun i => ?_⟩
  have h1 := hw.2.2.2.2.2 i
  rw [aFt_1, aFt_s (by decide), aFt_s (by decide), aFt_s (by decide), aFt_s (by decide), aFt_s (by decide), aFt_s (by decide), aFt_s (by decide), aFt_s (by decide)]
  refine ⟨h1.1, ?_, h1.2.2⟩
  split
  · exact hv
  · exact h1.2.1
theorem aFt_nf {T : aTn} {b : Nat} {v : Int} : nf0 (aFt T b v) = nf0 T := by
  funext s
  unfold nf0
  rw [aFt_s (by decide), aFt_s (by decide)]
theorem aFt_nn {T : aTn} {b : Nat} {v : Int} : nn0 (aFt T b v) = nn0 T := by
  funext s
  unfold nn0
  rw [aFt_nf, aFt_s (by decide)]
/-- nobody held by a baker -/
def hdL (hd : Nat → Nat → Int) (b0 : Nat) : Nat → Nat → Int := fun s b => if b = b0 then 0 else hd s b
theorem hdL_B {hd : Nat → Nat → Int} {B : Int} (h : hB hd B) (b0 : Nat) : hB (hdL hd b0) B := by
  constructor
  · intro s k
    unfold hdL
    split
    · exact Int.le_refl 0
    · exact h.1 s k
  · intro s
    have h0 := h.1 s 0
    have h1 := h.1 s 1
    have h2 := h.1 s 2
    have h3 := h.2 s
    unfold hdL
    split <;> split <;> split <;> omega
section WO
variable {d : Nat} {Q : zQ} {G : zG} {h : zM} {T : aTn} {Y n u b o : Nat} {B : Int}
theorem c_wos (hg : gS G) (kt : kT h 18 T) (hw : wT T) (h1 : 1 ≤ n) (h3 : n ≤ 3) (hN : n * (tg (fun _ => nA T) (nB T) * nB T) ≤ 2187) (hY : h 38 0 = (Y : Int)) (h40 : Y ≤ 40) (b1 : hB (hdC T h Y) B) (b2 : -100 ≤ B) (b3 : B + 100 * n ≤ 2000000) (h20 : nB T = 2 → ∀ s, hdC T h Y s 2 = 0) (hb : b < nB T) (ho : o < nB T) (K : ∀ h' : zM, (∀ c i, c < 46 ∨ 86 < c → h' c i = h c i) → Q (some (zL (vV (aFt T b (tr T 1 o)) (fun _ => nA T) (nn0 T) (nf0 T) n (hdC T h Y) b))) G h') : zRunD ztb zmt' (d + 10) 87 [zR (some 0), zI b, zI o, zI n] G h Q := by
  rw [r87]
  have hb3 := hw.1
  have v9 := (hw.2.2.2.2.2 o).2.1
  have hw2 := aFt_w (b := b) hw v9
  simp only [e87_0, e87_1, e87_2, e87_3, zs0, zsI, zsL, zsR, ztl1, ztl0, zc0, zcI, zcL, zcR, true_and, and_true, true_implies, false_implies, implies_true, not_true_eq_false, not_false_eq_true, and_self, Int.toNat_natCast, Nat.reduceAdd, Nat.reduceLeDiff, Nat.reduceLT, forall_eq', Option.some.injEq, zarR, zarI, zarL, zle, zq0, zq1, zq2, zq3, zq4, zq5, zq6, zq8, zq9, zq10, zq20, zq7, zq12, zq24, zq40, zq41, zq48, zq100, zq120, zq123, zq480, zq492, zq700, zq729, zq2187, zq2916, zq8748, ne_eq, Int.reduceEq, Int.reduceLT, Int.reduceLE, Int.reduceToNat, Int.reduceMul, Int.reduceAdd, Int.reduceNeg, gk0 hg, gr0_0 hg, gr0_2 hg, gr0_3 hg, gr0_4 hg, gr0_5 hg, gr0_6 hg, gr0_7 hg, gr0_8 hg, gr0_9 hg, gr0_10 hg]
  apply c_stage7 (d := d + 5) (n := n) (Y := Y) hg kt hw (by decide) (by omega) hY h40
  intro h1' f1 s1 _
  rw [aLaw_0] at s1
  have o3 : (o : Int) < 3 := by omega
  have b3' : (b : Int) < 3 := by omega
  have eo : h1' 20 o = tr T 1 o := by rw [f1 _ _ (by omega)]; exact kt.2.2.2.2.2.2.1 o ho
  simp only [e87_6, e87_7, e87_10, e87_13, e87_16, e87_17, e87_18, e87_21, e87_24, e87_25, e87_26, e87_27, e87_28, e87_29, e87_30, zs0, zsI, zsL, zsR, ztl1, ztl0, zc0, zcI, zcL, zcR, true_and, and_true, true_implies, false_implies, implies_true, not_true_eq_false, not_false_eq_true, and_self, Int.toNat_natCast, Nat.reduceAdd, Nat.reduceLeDiff, Nat.reduceLT, forall_eq', Option.some.injEq, zarR, zarI, zarL, zle, zq0, zq1, zq2, zq3, zq4, zq5, zq6, zq8, zq9, zq10, zq20, zq7, zq12, zq24, zq40, zq41, zq48, zq100, zq120, zq123, zq480, zq492, zq700, zq729, zq2187, zq2916, zq8748, ne_eq, Int.reduceEq, Int.reduceLT, Int.reduceLE, Int.reduceToNat, Int.reduceMul, Int.reduceAdd, Int.reduceNeg, gk0 hg, gr0_0 hg, gr0_2 hg, gr0_3 hg, gr0_4 hg, gr0_5 hg, gr0_6 hg, gr0_7 hg, gr0_8 hg, gr0_9 hg, gr0_10 hg, gk46 hg, gr46_0 hg, gr46_1 hg, gr46_2 hg, gr46_3 hg, gr46_4 hg, gr46_6 hg, gr46_7 hg, gr46_8 hg, gr46_9 hg, gr46_10 hg, gr46_11 hg, gr46_12 hg, gr46_13 hg, gk49 hg, gr49_0 hg, gr49_1 hg, gr49_2 hg, gr49_3 hg, gr49_4 hg, gr49_5 hg, gr49_6 hg, gr49_7 hg, gr49_8 hg, gk51 hg, gl51 hg, gk18 hg, gr18_0 hg, gr18_1 hg, gr18_2 hg, gr18_3 hg, gr18_4 hg, gr18_5 hg, gr18_6 hg, gr18_7 hg, gr18_8 hg, gk20 hg, gl20 hg, o3, b3', eo]
  have s2 : sg (aFt T b (tr T 1 o)) n (hdC T h Y) (nn0 T) (nf0 T) (fun _ => nA T) (zu h1' 51 b (tr T 1 o)) := by
    obtain ⟨a1, a2, a3, a4, a5, a6⟩ := s1
    obtain ⟨c1, c2, c3, c4, c5, c6, c7, c8, c9, c10, c11, c12, c13, c14⟩ := a1
    refine ⟨⟨?_, ?_, ?_, ?_, ?_, ?_, ?_, ?_, ?_, ?_, ?_, ?_, ?_, ?_⟩, ?_, ?_, ?_, ?_, ?_⟩
    · rw [zu_c (by decide)]; exact c1
    · rw [zu_c (by decide)]; exact c2
    · rw [zu_c (by decide)]; exact c3
    · rw [zu_c (by decide)]; exact c4
    · rw [zu_c (by decide)]; exact c5
    · intro i hi; rw [aFt_s (by decide), zu_c (by decide)]; exact c6 i hi
    · intro i hi
      rw [aFt_1]
      by_cases q : i = b
      · rw [if_pos q, q]; exact zu_at
      · rw [if_neg q, zu_i q]; exact c7 i hi
    · intro i hi; rw [aFt_s (by decide), zu_c (by decide)]; exact c8 i hi
    · intro i hi; rw [aFt_s (by decide), zu_c (by decide)]; exact c9 i hi
    · intro i hi; rw [aFt_s (by decide), zu_c (by decide)]; exact c10 i hi
    · intro i hi; rw [aFt_s (by decide), zu_c (by decide)]; exact c11 i hi
    · intro i hi; rw [aFt_s (by decide), zu_c (by decide)]; exact c12 i hi
    · intro i hi; rw [aFt_s (by decide), zu_c (by decide)]; exact c13 i hi
    · intro i hi; rw [aFt_s (by decide), zu_c (by decide)]; exact c14 i hi
    · intro b' hb'; rw [zu_c (by decide)]; exact a2 b' hb'
    · intro s hs; rw [zu_c (by decide)]; exact a3 s hs
    · intro s hs; rw [zu_c (by decide)]; exact a4 s hs
    · rw [zu_c (by decide)]; exact a5
    · intro s b' q1 q2; rw [zu_c (by omega)]; exact a6 s b' q1 q2
  apply c_war (d := d) (T := aFt T b (tr T 1 o)) (ac := fun _ => nA T) (nn := nn0 T) (nf := nf0 T) (hd := hdC T h Y) hg hw2 (acOk_all hw2) (fB00 hw) h1 h3 hN b1 b2 b3 h20 s2 hb
  intro h2 f2
  simp only [e87_33, zs0, zsI, zsL, zsR, ztl1, ztl0, zc0, zcI, zcL, zcR, true_and, and_true, true_implies, false_implies, implies_true, not_true_eq_false, not_false_eq_true, and_self, Int.toNat_natCast, Nat.reduceAdd, Nat.reduceLeDiff, Nat.reduceLT, forall_eq', Option.some.injEq, zarR, zarI, zarL, zle, zq0, zq1, zq2, zq3, zq4, zq5, zq6, zq8, zq9, zq10, zq20, zq7, zq12, zq24, zq40, zq41, zq48, zq100, zq120, zq123, zq480, zq492, zq700, zq729, zq2187, zq2916, zq8748, ne_eq, Int.reduceEq, Int.reduceLT, Int.reduceLE, Int.reduceToNat, Int.reduceMul, Int.reduceAdd, Int.reduceNeg]
  apply K
  intro c i q
  rw [f2 c i q, zu_c (by omega), f1 c i q]
/-- what the other's rests leave as it was -/
def rO (h h' : zM) : Prop := ∀ c i, c < 91 ∨ c = 91 ∧ (i < 16 ∨ 21 < i) ∧ ¬ i = 43 ∨ c = 92 ∨ 100 < c ∧ c < 110 ∨ 114 < c → h' c i = h c i
theorem rO.tr {h h1 h2 : zM} (a : rO h h1) (b : rO h1 h2) : rO h h2 := fun c i q => (b c i q).trans (a c i q)
theorem m_shaped (hg : gS G) (hu : gU G u) (rt : rT h u T) (hw : wT T) (h1 : 1 ≤ n) (h3 : n ≤ 3) {hd : Nat → Nat → Int} (b1 : hB hd B) (b2 : -100 ≤ B) (b3 : B + 100 * n ≤ 2000000) (h20 : nB T = 2 → ∀ s, hd s 2 = 0) (hh : ∀ s b, s < nS T → b < nB T → h 101 (3 * s + b) = hd s b) (hb : b < nB T) (ho : o < nB T) (K : ∀ h' : zM, rO h h' → Q (some (zL (vV (aFt T b (tr T 1 o)) (fun _ => nA T) (nn0 T) (nf0 T) n hd b))) G h') : zRunD ztb zmt' (d + 14) 201 [zR (some 91), zI b, zI o, zI n] G h Q := by
  rw [r201]
  have hb3 := hw.1
  have hs4 := hw.2.1
  have u1 := hu.1
  have v9 := (hw.2.2.2.2.2 o).2.1
  have hw2 := aFt_w (b := b) hw v9
  simp only [e201_0, e201_1, e201_2, zs0, zsI, zsL, zsR, ztl1, ztl0, zc0, zcI, zcL, zcR, true_and, and_true, true_implies, false_implies, implies_true, not_true_eq_false, not_false_eq_true, and_self, Int.toNat_natCast, Nat.reduceAdd, Nat.reduceLeDiff, Nat.reduceLT, forall_eq', Option.some.injEq, zarR, zarI, zarL, zle, zq0, zq1, zq2, zq3, zq4, zq5, zq6, zq8, zq9, zq10, zq20, zq7, zq12, zq24, zq40, zq41, zq48, zq100, zq120, zq123, zq480, zq492, zq700, zq729, zq2187, zq2916, zq8748, ne_eq, Int.reduceEq, Int.reduceLT, Int.reduceLE, Int.reduceToNat, Int.reduceMul, Int.reduceAdd, Int.reduceNeg, gk91 hg, gr91_5 hg, gr91_22 hg, gr91_23 hg, gr91_24 hg, gr91_25 hg, gr91_26 hg, gr91_27 hg, gr91_28 hg, gr91_29 hg, gr91_32 hg, gr91_33 hg, gr91_34 hg, gr91_35 hg, gr91_36 hg, gr91_37 hg, gr91_38 hg, gr91_39 hg, gr91_40 hg, gr91_41 hg, gr91_42 hg, gr91_44 hg, gr91_45 hg, gr91_46 hg, gr91_48 hg, gr91_49 hg, gr91_50 hg, gr91_51 hg, gr91_52 hg]
  apply m_lays hg hu rt hw (by decide)
  intro h2 f2 V2 v19 v20 v21
  rw [aLaw_0] at V2
  have o3 : (o : Int) < 3 := by omega
  have b3' : (b : Int) < 3 := by omega
  have eo : h2 (u + 2) o = tr T 1 o := by rw [f2 _ _ (by omega) (by omega)]; exact rt.2.2.2.2.2.2.1 o ho
  simp only [e201_5, e201_6, e201_9, e201_10, e201_11, e201_14, e201_17, e201_18, e201_19, e201_20, e201_21, e201_22, zs0, zsI, zsL, zsR, ztl1, ztl0, zc0, zcI, zcL, zcR, true_and, and_true, true_implies, false_implies, implies_true, not_true_eq_false, not_false_eq_true, and_self, Int.toNat_natCast, Nat.reduceAdd, Nat.reduceLeDiff, Nat.reduceLT, forall_eq', Option.some.injEq, zarR, zarI, zarL, zle, zq0, zq1, zq2, zq3, zq4, zq5, zq6, zq8, zq9, zq10, zq20, zq7, zq12, zq24, zq40, zq41, zq48, zq100, zq120, zq123, zq480, zq492, zq700, zq729, zq2187, zq2916, zq8748, ne_eq, Int.reduceEq, Int.reduceLT, Int.reduceLE, Int.reduceToNat, Int.reduceMul, Int.reduceAdd, Int.reduceNeg, gk91 hg, gr91_5 hg, gr91_22 hg, gr91_23 hg, gr91_24 hg, gr91_25 hg, gr91_26 hg, gr91_27 hg, gr91_28 hg, gr91_29 hg, gr91_32 hg, gr91_33 hg, gr91_34 hg, gr91_35 hg, gr91_36 hg, gr91_37 hg, gr91_38 hg, gr91_39 hg, gr91_40 hg, gr91_41 hg, gr91_42 hg, gr91_44 hg, gr91_45 hg, gr91_46 hg, gr91_48 hg, gr91_49 hg, gr91_50 hg, gr91_51 hg, gr91_52 hg, gk93 hg, gl93 hg, hu, o3, b3', eo]
  have V3 : rV (zu h2 93 b (tr T 1 o)) u (aFt T b (tr T 1 o)) := by
    obtain ⟨c1, c2, c3, c4, c5, c6, c7, c8, c9, c10, c11, c12, c13, c14⟩ := V2
    have z1 : ∀ c i, ¬ c = 93 → (zu h2 93 b (tr T 1 o)) c i = h2 c i := fun c i q => zu_c q
    refine ⟨?_, ?_, ?_, ?_, ?_, ?_, ?_, ?_, ?_, ?_, ?_, ?_, ?_, ?_⟩
    · rw [z1 _ _ (by omega)]; exact c1
    · rw [z1 _ _ (by omega)]; exact c2
    · rw [z1 _ _ (by omega)]; exact c3
    · rw [z1 _ _ (by omega)]; exact c4
    · rw [z1 _ _ (by omega)]; exact c5
    · intro i hi; rw [aFt_s (by decide), z1 _ _ (by omega)]; exact c6 i hi
    · intro i hi
      rw [aFt_1]
      by_cases q : i = b
      · rw [if_pos q, q]; exact zu_at
      · rw [if_neg q, zu_i q]; exact c7 i hi
    · intro i hi; rw [aFt_s (by decide), z1 _ _ (by omega)]; exact c8 i hi
    · intro i hi; rw [aFt_s (by decide), z1 _ _ (by omega)]; exact c9 i hi
    · intro i hi; rw [aFt_s (by decide), z1 _ _ (by omega)]; exact c10 i hi
    · intro i hi; rw [aFt_s (by decide), z1 91 17 (by omega), z1 (u + 7) i (by omega)]; exact c11 i hi
    · intro i hi; rw [aFt_s (by decide), z1 _ _ (by omega)]; exact c12 i hi
    · intro i hi; rw [aFt_s (by decide), z1 91 19 (by omega), z1 91 18 (by omega), z1 (u + 9) i (by omega)]; exact c13 i hi
    · rw [z1 91 17 (by omega)]; exact c14
  apply m_begins (n := n) hg hu h3
  intro h4 f4 a1 a2 a3
  have V4 : rV h4 u (aFt T b (tr T 1 o)) := rV_frame V3 (fun c i q => f4 c i (by omega) (by omega) (by omega)) (fun i => f4 _ _ (by omega) (by omega) (by omega)) (fun i _ _ => f4 _ _ (by omega) (by omega) (by omega))
  have w : ∀ i, i = 19 ∨ i = 20 ∨ i = 21 → h4 91 i = h2 91 i := fun i q => by rw [f4 _ _ (by omega) (by omega) (by omega), zu_c (by decide)]
  have hP : rPre (aFt T b (tr T 1 o)) (fun _ => nA T) (nn0 (aFt T b (tr T 1 o))) (nf0 (aFt T b (tr T 1 o))) u n hd h4 := by
    refine rPre_mk hw2 V4 (rA_all hw2 (by rw [w _ (by omega)]; exact v20) (by rw [w _ (by omega)]; exact v21)) (by rw [w _ (by omega)]; exact v19) ?_ ?_ a2
    · intro s hs
      have hs' : s < nS T := hs
      rw [a1 s (by omega), zu_c (by omega), aFt_s (by decide)]
      exact V2.2.2.2.2.2.2.2.2.1 s hs
    · intro s b' q1 q2
      have q1' : s < nS T := q1
      have q2' : b' < nB T := q2
      rw [a3 _ (by omega), zu_c (by decide), f2 _ _ (by omega) (by omega)]
      exact hh s b' q1' q2'
  rw [aFt_nn, aFt_nf] at hP
  simp only [e201_25, e201_26, e201_27, e201_28, zs0, zsI, zsL, zsR, ztl1, ztl0, zc0, zcI, zcL, zcR, true_and, and_true, true_implies, false_implies, implies_true, not_true_eq_false, not_false_eq_true, and_self, Int.toNat_natCast, Nat.reduceAdd, Nat.reduceLeDiff, Nat.reduceLT, forall_eq', Option.some.injEq, zarR, zarI, zarL, zle, zq0, zq1, zq2, zq3, zq4, zq5, zq6, zq8, zq9, zq10, zq20, zq7, zq12, zq24, zq40, zq41, zq48, zq100, zq120, zq123, zq480, zq492, zq700, zq729, zq2187, zq2916, zq8748, ne_eq, Int.reduceEq, Int.reduceLT, Int.reduceLE, Int.reduceToNat, Int.reduceMul, Int.reduceAdd, Int.reduceNeg, gk91 hg, gr91_5 hg, gr91_22 hg, gr91_23 hg, gr91_24 hg, gr91_25 hg, gr91_26 hg, gr91_27 hg, gr91_28 hg, gr91_29 hg, gr91_32 hg, gr91_33 hg, gr91_34 hg, gr91_35 hg, gr91_36 hg, gr91_37 hg, gr91_38 hg, gr91_39 hg, gr91_40 hg, gr91_41 hg, gr91_42 hg, gr91_44 hg, gr91_45 hg, gr91_46 hg, gr91_48 hg, gr91_49 hg, gr91_50 hg, gr91_51 hg, gr91_52 hg]
  apply m_worthOf (d := d) hg hu hw2 (acOk_all hw2) (fB00 hw) h1 h3 b1 b2 b3 h20 hP hb
  intro h5 hp
  have o5 := rFr_out hp.1
  simp only [e201_31, zs0, zsI, zsL, zsR, ztl1, ztl0, zc0, zcI, zcL, zcR, true_and, and_true, true_implies, false_implies, implies_true, not_true_eq_false, not_false_eq_true, and_self, Int.toNat_natCast, Nat.reduceAdd, Nat.reduceLeDiff, Nat.reduceLT, forall_eq', Option.some.injEq, zarR, zarI, zarL, zle, zq0, zq1, zq2, zq3, zq4, zq5, zq6, zq8, zq9, zq10, zq20, zq7, zq12, zq24, zq40, zq41, zq48, zq100, zq120, zq123, zq480, zq492, zq700, zq729, zq2187, zq2916, zq8748, ne_eq, Int.reduceEq, Int.reduceLT, Int.reduceLE, Int.reduceToNat, Int.reduceMul, Int.reduceAdd, Int.reduceNeg]
  apply K
  intro c i q
  rw [o5 c i (by omega), f4 c i (by omega) (by omega) (by omega), zu_c (by omega), f2 c i (by omega) (by omega)]
end WO
