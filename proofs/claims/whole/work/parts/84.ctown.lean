theorem gS_gu {G : zG} {c i : Nat} {v : Option Nat} (hg : gS G) (hr : ∀ e, e ∈ gRf → ¬ (e.1 = c ∧ e.2.1 = i)) : gS (zgu G c i v) := by
  obtain ⟨a, b, c', e'⟩ := hg
  refine ⟨a, b, c', fun e he => ?_⟩
  show (if e.1 = c ∧ e.2.1 = i then v else G.2.2.2 e.1 e.2.1) = _
  rw [if_neg (hr e he)]
  exact e' e he
theorem gS_22 {G : zG} {v : Option Nat} (hg : gS G) : gS (zgu G 2 2 v) := gS_gu hg (by decide)
theorem gU_gu {G : zG} {c i u : Nat} {v : Option Nat} (hu : gU G u) (hc : ¬ (c = 91 ∧ i = 3)) (hu2 : c < 121) : gU (zgu G c i v) u := by
  have h1 := hu.1
  have e1 : ∀ j, (zgu G c i v).2.2.2 u j = G.2.2.2 u j := fun j => by
    show (if u = c ∧ j = i then v else G.2.2.2 u j) = _
    rw [if_neg (by omega)]
  have e2 : (zgu G c i v).2.2.2 91 3 = G.2.2.2 91 3 := by
    show (if 91 = c ∧ 3 = i then v else G.2.2.2 91 3) = _
    rw [if_neg (by omega)]
  unfold gU at hu ⊢
  simp only [e1, e2]
  exact hu
section CT
variable {d : Nat} {Q : zQ} {G : zG} {h : zM} {n : Nat}
def opn (h : zM) (n : Nat) : zM := zu (zu (zu (zu (zu (zu (zu (zu (zu (zu h 2 3 n) 2 4 0) 2 1 0) 2 0 (-1)) 2 11 0) 2 12 0) 2 13 0) 6 9 0) 6 10 0) 6 11 0
theorem c_opn (hg : gS G) : zRunD ztb zmt' (d + 1) 15 [zR (some 2), zR (some 1), zI n, zR (some 6)] G h Q ↔ Q none (zgu G 2 2 (some 1)) (opn h n) := by
  have k2 : (zgu G 2 2 (some 1)).2.1 2 = 3 := gk2 (gS_22 hg)
  have k6 : (zgu G 2 2 (some 1)).2.1 6 = 5 := gk6 (gS_22 hg)
  rw [r15]
  simp only [e15_0, e15_1, e15_2, e15_5, e15_6, e15_7, e15_10, e15_11, e15_12, e15_15, e15_16, e15_17, e15_20, e15_21, e15_22, e15_25, e15_26, e15_27, e15_30, e15_31, e15_32, e15_35, e15_36, e15_37, e15_40, e15_41, e15_42, e15_45, e15_46, e15_47, e15_50, e15_51, e15_52, e15_55, zs0, zsI, zsL, zsR, ztl1, ztl0, zc0, zcI, zcL, zcR, true_and, and_true, true_implies, false_implies, implies_true, not_true_eq_false, not_false_eq_true, and_self, Int.toNat_natCast, Nat.reduceAdd, Nat.reduceLeDiff, Nat.reduceLT, forall_eq', Option.some.injEq, zarR, zarI, zarL, zle, zq0, zq1, zq2, zq3, zq4, zq5, zq6, zq8, zq9, zq10, zq20, zq7, zq12, zq24, zq40, zq41, zq48, zq100, zq120, zq123, zq480, zq492, zq700, zq729, zq2187, zq2916, zq8748, ne_eq, Int.reduceEq, Int.reduceLT, Int.reduceLE, Int.reduceToNat, Int.reduceMul, Int.reduceAdd, Int.reduceNeg, gk2 hg, gr2_9 hg, gr2_10 hg, gk6 hg, gr6_0 hg, gr6_1 hg, gr6_2 hg, gr6_3 hg, gr6_4 hg, gr6_5 hg, gr6_6 hg, gr6_7 hg, gr6_8 hg, k2, k6, or_true, true_or]
  rfl
theorem opn_o {c i : Nat} (h1 : ¬ c = 2) (h2 : ¬ c = 6) : opn h n c i = h c i := by
  unfold opn
  rw [zu_c h2, zu_c h2, zu_c h2, zu_c h1, zu_c h1, zu_c h1, zu_c h1, zu_c h1, zu_c h1, zu_c h1]
theorem c_read (hg : gS G) (hn : n ≤ 700) (K : ∀ (v : Int) (h' : zM), FR h h' → RR (h 1) n (pAll (h 1) n) h' v → Q (some (zI v)) (zgu G 2 2 (some 1)) h') : zRunD ztb zmt' (d + 6) 14 [zR (some 2), zR (some 1), zI n, zR (some 6)] G h Q := by
  rw [r14]
  have hg' : gS (zgu G 2 2 (some 1)) := gS_22 hg
  have ht : (zgu G 2 2 (some 1)).2.2.2 2 2 = some 1 := rfl
  have op := fun Q' => c_opn (d := d + 4) (Q := Q') (h := h) (n := n) hg
  have k2 : (zgu G 2 2 (some 1)).2.1 2 = 3 := gk2 (gS_22 hg)
  simp only [e14_0, e14_1, e14_2, e14_3, e14_4, e14_7, zs0, zsI, zsL, zsR, ztl1, ztl0, zc0, zcI, zcL, zcR, true_and, and_true, true_implies, false_implies, implies_true, not_true_eq_false, not_false_eq_true, and_self, Int.toNat_natCast, Nat.reduceAdd, Nat.reduceLeDiff, Nat.reduceLT, forall_eq', Option.some.injEq, zarR, zarI, zarL, zle, zq0, zq1, zq2, zq3, zq4, zq5, zq6, zq8, zq9, zq10, zq20, zq7, zq12, zq24, zq40, zq41, zq48, zq100, zq120, zq123, zq480, zq492, zq700, zq729, zq2187, zq2916, zq8748, ne_eq, Int.reduceEq, Int.reduceLT, Int.reduceLE, Int.reduceToNat, Int.reduceMul, Int.reduceAdd, Int.reduceNeg, gk2 hg, gr2_9 hg, gr2_10 hg, gk6 hg, gr6_0 hg, gr6_1 hg, gr6_2 hg, gr6_3 hg, gr6_4 hg, gr6_5 hg, gr6_6 hg, gr6_7 hg, gr6_8 hg, op, k2]
  have e1 : (opn h n) 1 = h 1 := funext (fun i => opn_o (by decide) (by decide))
  have R0 : FR h (opn h n) := fun c i z => opn_o (by omega) (by omega)
  simp only [e14_8, zs0, zsI, zsL, zsR, ztl1, ztl0, zc0, zcI, zcL, zcR, true_and, and_true, true_implies, false_implies, implies_true, not_true_eq_false, not_false_eq_true, and_self, Int.toNat_natCast, Nat.reduceAdd, Nat.reduceLeDiff, Nat.reduceLT, forall_eq', Option.some.injEq, zarR, zarI, zarL, zle, zq0, zq1, zq2, zq3, zq4, zq5, zq6, zq8, zq9, zq10, zq20, zq7, zq12, zq24, zq40, zq41, zq48, zq100, zq120, zq123, zq480, zq492, zq700, zq729, zq2187, zq2916, zq8748, ne_eq, Int.reduceEq, Int.reduceLT, Int.reduceLE, Int.reduceToNat, Int.reduceMul, Int.reduceAdd, Int.reduceNeg, k2]
  apply c_next (d := d + 3) (n := n) (q := 0) hg' ht (by unfold opn; simp [zu]) hn (by unfold opn; simp [zu]) (Nat.zero_le _)
  intro h1 f1 t1
  rw [e1] at t1
  have e2 : h1 1 = h 1 := by rw [← e1]; exact funext (fun i => f1 _ _ (by omega))
  have R1 : FR h h1 := R0.tr (fun c i z => f1 c i (by omega))
  have f1' : ∀ c i, ¬ (c = 2 ∧ 4 ≤ i ∧ i ≤ 8) → h1 c i = opn h n c i := f1
  simp only [e14_11, e14_12, zs0, zsI, zsL, zsR, ztl1, ztl0, zc0, zcI, zcL, zcR, true_and, and_true, true_implies, false_implies, implies_true, not_true_eq_false, not_false_eq_true, and_self, Int.toNat_natCast, Nat.reduceAdd, Nat.reduceLeDiff, Nat.reduceLT, forall_eq', Option.some.injEq, zarR, zarI, zarL, zle, zq0, zq1, zq2, zq3, zq4, zq5, zq6, zq8, zq9, zq10, zq20, zq7, zq12, zq24, zq40, zq41, zq48, zq100, zq120, zq123, zq480, zq492, zq700, zq729, zq2187, zq2916, zq8748, ne_eq, Int.reduceEq, Int.reduceLT, Int.reduceLE, Int.reduceToNat, Int.reduceMul, Int.reduceAdd, Int.reduceNeg]
  have lp := fun Q' KK => c_readLoop (d := d) (Q := Q') hg' ht hn 701 0 (by decide) (q := 0) (D := (T00, [], 0)) (h := h1) ⟨by rw [f1 _ _ (by omega)]; unfold opn; simp [zu], by rw [f1 _ _ (by omega)]; unfold opn; simp [zu], by rw [f1 _ _ (by omega)]; unfold opn; simp [zu], by rw [e2]; exact t1⟩ (Nat.le_refl _) (by
    refine ⟨⟨?_, ?_, ?_, ?_, ?_, ?_, ?_, ?_, ?_, ?_, ?_, ?_⟩, ?_, ?_, ⟨?_, ?_, ?_⟩, ?_, ?_⟩
    · rw [f1 _ _ (by omega)]; unfold opn nB T00; simp [zu]
    · rw [f1 _ _ (by omega)]; unfold opn nS T00; simp [zu]
    · rw [f1 _ _ (by omega)]; unfold opn nP T00; simp [zu]
    · intro i hi; exact absurd hi (Nat.not_lt_zero _)
    · intro i hi; exact absurd hi (Nat.not_lt_zero _)
    · intro i hi; exact absurd hi (Nat.not_lt_zero _)
    · intro i hi; exact absurd hi (Nat.not_lt_zero _)
    · intro i hi; exact absurd hi (Nat.not_lt_zero _)
    · intro i hi; exact absurd hi (Nat.not_lt_zero _)
    · intro i hi; exact absurd hi (Nat.not_lt_zero _)
    · intro i hi; exact absurd hi (Nat.not_lt_zero _)
    · intro i hi; exact absurd hi (Nat.not_lt_zero _)
    · intro hi; exact absurd hi (Nat.not_lt_zero _)
    · intro hi; exact absurd hi (by decide)
    · rw [f1 _ _ (by omega)]; unfold opn; simp [zu]
    · exact Nat.zero_le _
    · intro i p hp; simp at hp
    · rw [f1 _ _ (by omega)]; unfold opn nP T00; simp [zu]
    · rw [f1 _ _ (by omega)]; unfold opn; simp [zu]) (by
    refine ⟨Nat.zero_le _, Nat.zero_le _, Nat.zero_le _, rfl, (fun p hp => absurd hp List.not_mem_nil), Or.inl rfl⟩) (by
    exact ⟨Or.inl rfl, ⟨Int.le_refl 0, (by decide : (0 : Int) ≤ 100)⟩, fun i => (by decide : (0 ≤ (0 : Int) ∧ (0 : Int) ≤ 99) ∧ (0 ≤ (0 : Int) ∧ (0 : Int) ≤ 9) ∧ (0 ≤ (0 : Int) ∧ (0 : Int) ≤ 999) ∧ (0 ≤ (0 : Int) ∧ (0 : Int) ≤ 99) ∧ (0 ≤ (0 : Int) ∧ (0 : Int) ≤ 199) ∧ (0 ≤ (0 : Int) ∧ (0 : Int) ≤ 99) ∧ (0 ≤ (0 : Int) ∧ (0 : Int) ≤ 100) ∧ ((0 : Int) = 0 ∨ (0 : Int) = 1) ∧ (0 ≤ (0 : Int) ∧ (0 : Int) ≤ 199))⟩) KK
  rw [zq0] at lp
  apply lp
  intro v h' f' r'
  rw [e2] at r'
  apply K v h' (R1.tr f')
  exact r'
/-- the one's state behind a town that was read -/
def zer (h : zM) : Prop := h 38 0 = 0 ∧ h 42 0 = 0 ∧ (∀ i, i < 492 → h 39 i = 0) ∧ (∀ i, i < 123 → h 40 i = 0 ∧ h 41 i = 0) ∧ h 87 0 = 0
def CTo (h : zM) (r : pE ⊕ pD) (h' : zM) : Prop := (∀ c i, c = 1 ∨ 91 ≤ c → h' c i = h c i) ∧ h' 0 1 = 0 ∧ match r with
  | .inl e => h' 0 11 = 4 ∧ ¬ e.1 = 0 ∧ h' 0 12 = e.1 ∧ h' 0 13 = e.2 ∧ (∀ c i, 18 ≤ c → h' c i = h c i)
  | .inr D => h' 0 11 = 0 ∧ h' 0 12 = 0 ∧ h' 0 13 = -1 ∧ kT h' 18 D.1 ∧ wT D.1 ∧ zer h'
def aTwn (r : pE ⊕ pD) : Int := match r with
  | .inl _ => -1
  | .inr D => nB D.1
theorem c_clear (hg : gS G) : zRunD ztb zmt' (d + 2) 1 [zR (some 38)] G h Q ↔ Q none G (zfl (zfl (zfl (zu (zu h 38 0 0) 42 0 0) 39 492 0) 40 123 0) 41 123 0) := by
  have sf := fun h9 Q' => s_fill (d := d) (Q := Q') (h := h9) (r := 39) (N := 492) (v := 0) (gk39 hg) (gl39 hg) (by decide)
  have sg := fun h9 Q' => s_fill (d := d) (Q := Q') (h := h9) (r := 40) (N := 123) (v := 0) (gk40 hg) (gl40 hg) (by decide)
  have sh := fun h9 Q' => s_fill (d := d) (Q := Q') (h := h9) (r := 41) (N := 123) (v := 0) (gk41 hg) (gl41 hg) (by decide)
  rw [r1]
  simp only [e1_0, e1_1, e1_2, e1_5, e1_6, e1_9, e1_10, e1_11, e1_12, e1_13, e1_16, e1_17, e1_20, e1_21, e1_24, e1_25, e1_28, e1_29, e1_32, e1_33, e1_36, zs0, zsI, zsL, zsR, ztl1, ztl0, zc0, zcI, zcL, zcR, true_and, and_true, true_implies, false_implies, implies_true, not_true_eq_false, not_false_eq_true, and_self, Int.toNat_natCast, Nat.reduceAdd, Nat.reduceLeDiff, Nat.reduceLT, forall_eq', Option.some.injEq, zarR, zarI, zarL, zle, zq0, zq1, zq2, zq3, zq4, zq5, zq6, zq8, zq9, zq10, zq20, zq7, zq12, zq24, zq40, zq41, zq48, zq100, zq120, zq123, zq480, zq492, zq700, zq729, zq2187, zq2916, zq8748, ne_eq, Int.reduceEq, Int.reduceLT, Int.reduceLE, Int.reduceToNat, Int.reduceMul, Int.reduceAdd, Int.reduceNeg, gk38 hg, gr38_1 hg, gr38_2 hg, gr38_3 hg, gr38_4 hg, gr38_5 hg, gr38_6 hg, gk42 hg, gl42 hg, sf, sg, sh]
theorem c_town2 (hg : gS G) {x : Int} (h1 : h 0 1 = (n : Int)) (hx : ¬ (0 ≤ x ∧ x ≤ n)) : zRunD ztb zmt' (d + 7) 60 [zR (some 0), zI x] G h Q ↔ Q (some (zI (-1))) G (zu h 0 11 2) := by
  rw [r60]
  by_cases x0 : x < 0
  · simp only [e60_0, e60_1, e60_4, e60_5, e60_6, e60_9, e60_12, e60_13, e60_14, e60_17, e60_18, e60_19, e60_20, e60_21, e60_24, e60_25, e60_28, e60_29, e60_30, e60_33, e60_36, e60_39, e60_40, e60_41, e60_44, e60_47, e60_50, e60_51, e60_52, e60_55, e60_56, e60_59, e60_62, e60_63, e60_64, e60_67, e60_68, e60_69, e60_70, e60_71, e60_74, e60_75, e60_78, e60_79, e60_82, e60_85, e60_86, e60_89, e60_92, e60_93, e60_96, e60_97, e60_100, e60_101, e60_104, e60_107, zs0, zsI, zsL, zsR, ztl1, ztl0, zc0, zcI, zcL, zcR, true_and, and_true, true_implies, false_implies, implies_true, not_true_eq_false, not_false_eq_true, and_self, Int.toNat_natCast, Nat.reduceAdd, Nat.reduceLeDiff, Nat.reduceLT, forall_eq', Option.some.injEq, zarR, zarI, zarL, zle, zq0, zq1, zq2, zq3, zq4, zq5, zq6, zq8, zq9, zq10, zq20, zq7, zq12, zq24, zq40, zq41, zq48, zq100, zq120, zq123, zq480, zq492, zq700, zq729, zq2187, zq2916, zq8748, ne_eq, Int.reduceEq, Int.reduceLT, Int.reduceLE, Int.reduceToNat, Int.reduceMul, Int.reduceAdd, Int.reduceNeg, gk0 hg, gr0_0 hg, gr0_2 hg, gr0_3 hg, gr0_4 hg, gr0_5 hg, gr0_6 hg, gr0_7 hg, gr0_8 hg, gr0_9 hg, gr0_10 hg, x0, or_true]
  · have x1 : ¬ x ≤ n := by omega
    simp only [e60_0, e60_1, e60_4, e60_5, e60_6, e60_9, e60_12, e60_13, e60_14, e60_17, e60_18, e60_19, e60_20, e60_21, e60_24, e60_25, e60_28, e60_29, e60_30, e60_33, e60_36, e60_39, e60_40, e60_41, e60_44, e60_47, e60_50, e60_51, e60_52, e60_55, e60_56, e60_59, e60_62, e60_63, e60_64, e60_67, e60_68, e60_69, e60_70, e60_71, e60_74, e60_75, e60_78, e60_79, e60_82, e60_85, e60_86, e60_89, e60_92, e60_93, e60_96, e60_97, e60_100, e60_101, e60_104, e60_107, zs0, zsI, zsL, zsR, ztl1, ztl0, zc0, zcI, zcL, zcR, true_and, and_true, true_implies, false_implies, implies_true, not_true_eq_false, not_false_eq_true, and_self, Int.toNat_natCast, Nat.reduceAdd, Nat.reduceLeDiff, Nat.reduceLT, forall_eq', Option.some.injEq, zarR, zarI, zarL, zle, zq0, zq1, zq2, zq3, zq4, zq5, zq6, zq8, zq9, zq10, zq20, zq7, zq12, zq24, zq40, zq41, zq48, zq100, zq120, zq123, zq480, zq492, zq700, zq729, zq2187, zq2916, zq8748, ne_eq, Int.reduceEq, Int.reduceLT, Int.reduceLE, Int.reduceToNat, Int.reduceMul, Int.reduceAdd, Int.reduceNeg, gk0 hg, gr0_0 hg, gr0_2 hg, gr0_3 hg, gr0_4 hg, gr0_5 hg, gr0_6 hg, gr0_7 hg, gr0_8 hg, gr0_9 hg, gr0_10 hg, x0, h1, x1, or_true]
theorem c_town (hg : gS G) {n0 : Nat} (h1 : h 0 1 = (n0 : Int)) (hx : n ≤ n0) (hn : n ≤ 700) (K : ∀ h' : zM, CTo h (pAll (h 1) n) h' → Q (some (zI (aTwn (pAll (h 1) n)))) (zgu G 2 2 (some 1)) h') : zRunD ztb zmt' (d + 7) 60 [zR (some 0), zI n] G h Q := by
  rw [r60]
  have hg' : gS (zgu G 2 2 (some 1)) := gS_22 hg
  have x0 : ¬ (n : Int) < 0 := by omega
  have x1 : (n : Int) ≤ n0 := by omega
  simp only [e60_0, e60_1, e60_4, e60_5, e60_6, e60_9, e60_12, e60_13, e60_14, e60_17, e60_18, e60_19, e60_20, e60_21, e60_24, e60_25, e60_28, e60_29, e60_30, e60_33, zs0, zsI, zsL, zsR, ztl1, ztl0, zc0, zcI, zcL, zcR, true_and, and_true, true_implies, false_implies, implies_true, not_true_eq_false, not_false_eq_true, and_self, Int.toNat_natCast, Nat.reduceAdd, Nat.reduceLeDiff, Nat.reduceLT, forall_eq', Option.some.injEq, zarR, zarI, zarL, zle, zq0, zq1, zq2, zq3, zq4, zq5, zq6, zq8, zq9, zq10, zq20, zq7, zq12, zq24, zq40, zq41, zq48, zq100, zq120, zq123, zq480, zq492, zq700, zq729, zq2187, zq2916, zq8748, ne_eq, Int.reduceEq, Int.reduceLT, Int.reduceLE, Int.reduceToNat, Int.reduceMul, Int.reduceAdd, Int.reduceNeg, gk0 hg, gr0_0 hg, gr0_2 hg, gr0_3 hg, gr0_4 hg, gr0_5 hg, gr0_6 hg, gr0_7 hg, gr0_8 hg, gr0_9 hg, gr0_10 hg, gk2 hg, gr2_9 hg, gr2_10 hg, x0, h1, x1]
  apply c_read (d := d) hg hn
  intro v h2 f2 r2
  generalize hr : pAll (h 1) n = r at r2 K
  have hg := hg'
  generalize zgu G 2 2 (some 1) = G' at hg' hg K
  cases r with
  | inl e =>
    obtain ⟨rv, r0, r1⟩ := r2
    subst rv
    simp only [e60_36, e60_39, e60_40, e60_41, e60_44, e60_47, e60_50, e60_51, e60_52, e60_55, e60_56, e60_59, e60_62, e60_63, e60_64, e60_67, e60_68, e60_69, e60_70, e60_71, e60_74, e60_75, e60_78, e60_79, e60_82, e60_85, e60_86, e60_89, e60_92, e60_93, e60_96, e60_97, e60_100, e60_101, e60_104, e60_107, zs0, zsI, zsL, zsR, ztl1, ztl0, zc0, zcI, zcL, zcR, true_and, and_true, true_implies, false_implies, implies_true, not_true_eq_false, not_false_eq_true, and_self, Int.toNat_natCast, Nat.reduceAdd, Nat.reduceLeDiff, Nat.reduceLT, forall_eq', Option.some.injEq, zarR, zarI, zarL, zle, zq0, zq1, zq2, zq3, zq4, zq5, zq6, zq8, zq9, zq10, zq20, zq7, zq12, zq24, zq40, zq41, zq48, zq100, zq120, zq123, zq480, zq492, zq700, zq729, zq2187, zq2916, zq8748, ne_eq, Int.reduceEq, Int.reduceLT, Int.reduceLE, Int.reduceToNat, Int.reduceMul, Int.reduceAdd, Int.reduceNeg, gk0 hg, gr0_0 hg, gr0_2 hg, gr0_3 hg, gr0_4 hg, gr0_5 hg, gr0_6 hg, gr0_7 hg, gr0_8 hg, gr0_9 hg, gr0_10 hg, gk2 hg, gr2_9 hg, gr2_10 hg, zu_c (show ¬ 2 = 0 by decide), zu_i (show ¬ 12 = 13 by decide), zu_i (show ¬ 12 = 1 by decide), zu_at, r1, r0]
    apply K
    refine ⟨fun c i z => ?_, ?_, ?_, r0, ?_, ?_, fun c i z => ?_⟩
    · rw [zu_c (by omega), zu_c (by omega), zu_c (by omega), zu_c (by omega)]; exact f2 c i (by omega)
    · simp [zu]
    · simp [zu]
    · simp [zu]
    · simp [zu]
    · rw [zu_c (by omega), zu_c (by omega), zu_c (by omega), zu_c (by omega)]; exact f2 c i (by omega)
  | inr D =>
    obtain ⟨rv, r0, dc, hB, hW, lk⟩ := r2
    subst rv
    obtain ⟨dr, dtw, dkp, dN, d12, d13⟩ := dc
    obtain ⟨b1, b2, b3, b4, b5, b6⟩ := hB
    have w : wT D.1 := ⟨by omega, by omega, by omega, hW⟩
    have kt2 : kT h2 6 D.1 := by
      obtain ⟨q1, q2, q3, q4⟩ := dr
      exact ⟨q1, q2, q3, dtw (by omega), dkp (by omega), q4⟩
    obtain ⟨h3, e3⟩ : ∃ z, z = zu (zu (zu (zu h2 0 12 0) 0 13 (-1)) 0 1 0) 0 11 0 := ⟨_, rfl⟩
    have f3 : ∀ c i, 0 < c → h3 c i = h2 c i := fun c i z => by rw [e3, zu_c (by omega), zu_c (by omega), zu_c (by omega), zu_c (by omega)]
    simp only [e60_36, e60_39, e60_40, e60_41, e60_44, e60_47, e60_50, e60_51, e60_52, e60_55, e60_56, e60_59, e60_62, e60_63, e60_64, e60_67, e60_68, e60_69, e60_70, e60_71, e60_74, e60_75, e60_78, e60_79, e60_82, zs0, zsI, zsL, zsR, ztl1, ztl0, zc0, zcI, zcL, zcR, true_and, and_true, true_implies, false_implies, implies_true, not_true_eq_false, not_false_eq_true, and_self, Int.toNat_natCast, Nat.reduceAdd, Nat.reduceLeDiff, Nat.reduceLT, forall_eq', Option.some.injEq, zarR, zarI, zarL, zle, zq0, zq1, zq2, zq3, zq4, zq5, zq6, zq8, zq9, zq10, zq20, zq7, zq12, zq24, zq40, zq41, zq48, zq100, zq120, zq123, zq480, zq492, zq700, zq729, zq2187, zq2916, zq8748, ne_eq, Int.reduceEq, Int.reduceLT, Int.reduceLE, Int.reduceToNat, Int.reduceMul, Int.reduceAdd, Int.reduceNeg, gk0 hg, gr0_0 hg, gr0_2 hg, gr0_3 hg, gr0_4 hg, gr0_5 hg, gr0_6 hg, gr0_7 hg, gr0_8 hg, gr0_9 hg, gr0_10 hg, gk2 hg, gr2_9 hg, gr2_10 hg, gk18 hg, gr18_0 hg, gr18_1 hg, gr18_2 hg, gr18_3 hg, gr18_4 hg, gr18_5 hg, gr18_6 hg, gr18_7 hg, gr18_8 hg, zu_c (show ¬ 2 = 0 by decide), zu_i (show ¬ 12 = 13 by decide), zu_i (show ¬ 12 = 1 by decide), zu_at, r0]
    rw [← e3]
    apply c_copy18 (d := d + 5) hg (kT_frame kt2 (fun c i z1 z2 => f3 c i (by omega))) w
    intro h4 f4 k4 _
    have cl := fun Q' => c_clear (d := d + 4) (Q := Q') (h := h4) hg
    simp only [e60_85, e60_86, e60_89, zs0, zsI, zsL, zsR, ztl1, ztl0, zc0, zcI, zcL, zcR, true_and, and_true, true_implies, false_implies, implies_true, not_true_eq_false, not_false_eq_true, and_self, Int.toNat_natCast, Nat.reduceAdd, Nat.reduceLeDiff, Nat.reduceLT, forall_eq', Option.some.injEq, zarR, zarI, zarL, zle, zq0, zq1, zq2, zq3, zq4, zq5, zq6, zq8, zq9, zq10, zq20, zq7, zq12, zq24, zq40, zq41, zq48, zq100, zq120, zq123, zq480, zq492, zq700, zq729, zq2187, zq2916, zq8748, ne_eq, Int.reduceEq, Int.reduceLT, Int.reduceLE, Int.reduceToNat, Int.reduceMul, Int.reduceAdd, Int.reduceNeg, gk0 hg, gr0_0 hg, gr0_2 hg, gr0_3 hg, gr0_4 hg, gr0_5 hg, gr0_6 hg, gr0_7 hg, gr0_8 hg, gr0_9 hg, gr0_10 hg, gk38 hg, gr38_1 hg, gr38_2 hg, gr38_3 hg, gr38_4 hg, gr38_5 hg, gr38_6 hg, cl]
    obtain ⟨h5, e5⟩ : ∃ z, z = zu (zfl (zfl (zfl (zu (zu h4 38 0 0) 42 0 0) 39 492 0) 40 123 0) 41 123 0) 87 0 0 := ⟨_, rfl⟩
    have f5 : ∀ c i, c < 38 ∨ 42 < c ∧ c < 87 ∨ 87 < c → h5 c i = h4 c i := fun c i z => by rw [e5, zu_c (by omega), zfl_c (by omega), zfl_c (by omega), zfl_c (by omega), zu_c (by omega), zu_c (by omega)]
    simp only [e60_92, e60_93, e60_96, e60_97, e60_100, e60_101, zs0, zsI, zsL, zsR, ztl1, ztl0, zc0, zcI, zcL, zcR, true_and, and_true, true_implies, false_implies, implies_true, not_true_eq_false, not_false_eq_true, and_self, Int.toNat_natCast, Nat.reduceAdd, Nat.reduceLeDiff, Nat.reduceLT, forall_eq', Option.some.injEq, zarR, zarI, zarL, zle, zq0, zq1, zq2, zq3, zq4, zq5, zq6, zq8, zq9, zq10, zq20, zq7, zq12, zq24, zq40, zq41, zq48, zq100, zq120, zq123, zq480, zq492, zq700, zq729, zq2187, zq2916, zq8748, ne_eq, Int.reduceEq, Int.reduceLT, Int.reduceLE, Int.reduceToNat, Int.reduceMul, Int.reduceAdd, Int.reduceNeg, gk0 hg, gr0_0 hg, gr0_2 hg, gr0_3 hg, gr0_4 hg, gr0_5 hg, gr0_6 hg, gr0_7 hg, gr0_8 hg, gr0_9 hg, gr0_10 hg, gk87 hg, gr87_1 hg, gr87_2 hg, gr87_3 hg, gk18 hg, gr18_0 hg, gr18_1 hg, gr18_2 hg, gr18_3 hg, gr18_4 hg, gr18_5 hg, gr18_6 hg, gr18_7 hg, gr18_8 hg]
    rw [← e5]
    have k5 : kT h5 18 D.1 := kT_frame k4 (fun c i z1 z2 => f5 c i (by omega))
    have k59 := k5.1
    simp only [e60_104, e60_107, zs0, zsI, zsL, zsR, ztl1, ztl0, zc0, zcI, zcL, zcR, true_and, and_true, true_implies, false_implies, implies_true, not_true_eq_false, not_false_eq_true, and_self, Int.toNat_natCast, Nat.reduceAdd, Nat.reduceLeDiff, Nat.reduceLT, forall_eq', Option.some.injEq, zarR, zarI, zarL, zle, zq0, zq1, zq2, zq3, zq4, zq5, zq6, zq8, zq9, zq10, zq20, zq7, zq12, zq24, zq40, zq41, zq48, zq100, zq120, zq123, zq480, zq492, zq700, zq729, zq2187, zq2916, zq8748, ne_eq, Int.reduceEq, Int.reduceLT, Int.reduceLE, Int.reduceToNat, Int.reduceMul, Int.reduceAdd, Int.reduceNeg, gk18 hg, gr18_0 hg, gr18_1 hg, gr18_2 hg, gr18_3 hg, gr18_4 hg, gr18_5 hg, gr18_6 hg, gr18_7 hg, gr18_8 hg, k59]
    refine ⟨Or.inl trivial, ?_⟩
    apply K
    have z45 : ∀ i, h5 0 i = h3 0 i := fun i => by rw [f5 _ _ (by omega), f4 _ _ (by omega)]
    refine ⟨fun c i z => ?_, ?_, ?_, ?_, ?_, k5, w, ?_⟩
    · rw [f5 _ _ (by omega), f4 _ _ (by omega), f3 _ _ (by omega)]; exact f2 c i (by omega)
    · rw [z45, e3]; simp [zu]
    · rw [z45, e3]; simp [zu]
    · rw [z45, e3]; simp [zu]
    · rw [z45, e3]; simp [zu]
    · refine ⟨?_, ?_, fun i hi => ?_, fun i hi => ⟨?_, ?_⟩, ?_⟩
      · rw [e5, zu_c (by decide), zfl_c (by decide), zfl_c (by decide), zfl_c (by decide), zu_c (by decide), zu_at]
      · rw [e5, zu_c (by decide), zfl_c (by decide), zfl_c (by decide), zfl_c (by decide), zu_at]
      · rw [e5, zu_c (by decide), zfl_c (by decide), zfl_c (by decide), zfl_at hi]
      · rw [e5, zu_c (by decide), zfl_c (by decide), zfl_at hi]
      · rw [e5, zu_c (by decide), zfl_at hi]
      · rw [e5, zu_at]
end CT
