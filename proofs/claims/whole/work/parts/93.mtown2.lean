theorem gRf_lt : ∀ e, e ∈ gRf → e.1 < 121 := by decide +kernel
theorem gRf_4 : ∀ e, e ∈ gRf → ¬ (e.1 = 91 ∧ e.2.1 = 4) := by decide +kernel
theorem gRf_3 : ∀ e, e ∈ gRf → ¬ (e.1 = 91 ∧ e.2.1 = 3) := by decide +kernel
section MT2
variable {d : Nat} {Q : zQ} {G : zG} {h : zM} {n : Nat} {tp : Nat → Int}
theorem gV_of {G : zG} {u : Nat} (h1 : 121 ≤ u) (h2 : G.2.2.2 91 4 = some u) (h3 : gN G u) : gV G u := ⟨h1, h2, h3⟩
theorem gU_of {G : zG} {u : Nat} (h1 : 121 ≤ u) (h2 : G.2.2.2 91 3 = some u) (h3 : gN G u) : gU G u := ⟨h1, h2, h3⟩
theorem gN_gu {G : zG} {u c i : Nat} {v : Option Nat} (hc : ¬ u = c) (k : gN G u) : gN (zgu G c i v) u := by
  have e : ∀ j, (zgu G c i v).2.2.2 u j = G.2.2.2 u j := fun j => by rw [zgu_r, if_neg (fun z => hc z.1)]
  simp only [gN, e, zgu_k, zgu_l] at k ⊢
  exact k
theorem m_readTown (hg : gS G) {u : Nat} (hv : gV G u) (c : MS tp n (.inr 0) h) (kD : DM tp u h (T00, [], 0)) (K : ∀ h' : zM, fm u h h' → RM' tp n u (pAll tp n) h' → Q none G h') : zRunD ztb zmt' (d + 7) 132 [zR (some 91)] G h Q := by
  rw [r132]
  simp only [e132_0, e132_1, zs0, zsI, zsL, zsR, ztl1, ztl0, zc0, zcI, zcL, zcR, true_and, and_true, true_implies, false_implies, implies_true, not_true_eq_false, not_false_eq_true, and_self, Int.toNat_natCast, Nat.reduceAdd, Nat.reduceLeDiff, Nat.reduceLT, forall_eq', Option.some.injEq, zarR, zarI, zarL, zle, zq0, zq1, zq2, zq3, zq4, zq5, zq6, zq8, zq9, zq10, zq20, zq7, zq12, zq24, zq40, zq41, zq48, zq100, zq120, zq123, zq480, zq492, zq700, zq729, zq2187, zq2916, zq8748, ne_eq, Int.reduceEq, Int.reduceLT, Int.reduceLE, Int.reduceToNat, Int.reduceMul, Int.reduceAdd, Int.reduceNeg]
  apply m_townLoop hg hv 701 (i := 0) (by decide) c (Nat.le_refl _) kD
  · refine ⟨Nat.zero_le _, Nat.zero_le _, Nat.zero_le _, rfl, (fun p hp => absurd hp List.not_mem_nil), Or.inl rfl⟩
  · exact ⟨Or.inl rfl, ⟨Int.le_refl 0, (by decide : (0 : Int) ≤ 100)⟩, fun i => (by decide : (0 ≤ (0 : Int) ∧ (0 : Int) ≤ 99) ∧ (0 ≤ (0 : Int) ∧ (0 : Int) ≤ 9) ∧ (0 ≤ (0 : Int) ∧ (0 : Int) ≤ 999) ∧ (0 ≤ (0 : Int) ∧ (0 : Int) ≤ 99) ∧ (0 ≤ (0 : Int) ∧ (0 : Int) ≤ 199) ∧ (0 ≤ (0 : Int) ∧ (0 : Int) ≤ 99) ∧ (0 ≤ (0 : Int) ∧ (0 : Int) ≤ 100) ∧ ((0 : Int) = 0 ∨ (0 : Int) = 1) ∧ (0 ≤ (0 : Int) ∧ (0 : Int) ≤ 199))⟩
  · intro h' f' r'
    exact K h' f' r'
theorem m_town2 (hg : gS G) {x : Int} (h6 : h 91 6 = (n : Int)) (hx : ¬ (0 ≤ x ∧ x ≤ n)) : zRunD ztb zmt' (d + 8) 140 [zR (some 91), zI x] G h Q ↔ Q (some (zI (-1))) G (zu (zu (zu h 91 0 0) 91 1 2) 91 2 (-1)) := by
  rw [r140]
  have rf := fun Q' => m_refused (d := d + 6) (Q := Q') (G := G) (h := zu h 91 0 0) (x := 2) hg
  by_cases x0 : x < 0
  · simp only [e140_0, e140_1, e140_2, e140_5, e140_6, e140_9, e140_10, e140_11, e140_14, e140_17, e140_18, e140_19, e140_22, zs0, zsI, zsL, zsR, ztl1, ztl0, zc0, zcI, zcL, zcR, true_and, and_true, true_implies, false_implies, implies_true, not_true_eq_false, not_false_eq_true, and_self, Int.toNat_natCast, Nat.reduceAdd, Nat.reduceLeDiff, Nat.reduceLT, forall_eq', Option.some.injEq, zarR, zarI, zarL, zle, zq0, zq1, zq2, zq3, zq4, zq5, zq6, zq8, zq9, zq10, zq20, zq7, zq12, zq24, zq40, zq41, zq48, zq100, zq120, zq123, zq480, zq492, zq700, zq729, zq2187, zq2916, zq8748, ne_eq, Int.reduceEq, Int.reduceLT, Int.reduceLE, Int.reduceToNat, Int.reduceMul, Int.reduceAdd, Int.reduceNeg, gk91 hg, gr91_5 hg, gr91_22 hg, gr91_23 hg, gr91_24 hg, gr91_25 hg, gr91_26 hg, gr91_27 hg, gr91_28 hg, gr91_29 hg, gr91_32 hg, gr91_33 hg, gr91_34 hg, gr91_35 hg, gr91_36 hg, gr91_37 hg, gr91_38 hg, gr91_39 hg, gr91_40 hg, gr91_41 hg, gr91_42 hg, gr91_44 hg, gr91_45 hg, gr91_46 hg, gr91_48 hg, gr91_49 hg, gr91_50 hg, gr91_51 hg, gr91_52 hg, x0, rf]
  · have x1 : ¬ x ≤ n := by omega
    simp only [e140_0, e140_1, e140_2, e140_5, e140_6, e140_9, e140_10, e140_11, e140_14, e140_17, e140_18, e140_19, e140_22, zs0, zsI, zsL, zsR, ztl1, ztl0, zc0, zcI, zcL, zcR, true_and, and_true, true_implies, false_implies, implies_true, not_true_eq_false, not_false_eq_true, and_self, Int.toNat_natCast, Nat.reduceAdd, Nat.reduceLeDiff, Nat.reduceLT, forall_eq', Option.some.injEq, zarR, zarI, zarL, zle, zq0, zq1, zq2, zq3, zq4, zq5, zq6, zq8, zq9, zq10, zq20, zq7, zq12, zq24, zq40, zq41, zq48, zq100, zq120, zq123, zq480, zq492, zq700, zq729, zq2187, zq2916, zq8748, ne_eq, Int.reduceEq, Int.reduceLT, Int.reduceLE, Int.reduceToNat, Int.reduceMul, Int.reduceAdd, Int.reduceNeg, gk91 hg, gr91_5 hg, gr91_22 hg, gr91_23 hg, gr91_24 hg, gr91_25 hg, gr91_26 hg, gr91_27 hg, gr91_28 hg, gr91_29 hg, gr91_32 hg, gr91_33 hg, gr91_34 hg, gr91_35 hg, gr91_36 hg, gr91_37 hg, gr91_38 hg, gr91_39 hg, gr91_40 hg, gr91_41 hg, gr91_42 hg, gr91_44 hg, gr91_45 hg, gr91_46 hg, gr91_48 hg, gr91_49 hg, gr91_50 hg, gr91_51 hg, gr91_52 hg, x0, zu_i (show ¬ 6 = 0 by decide), h6, x1, rf]
/-- what the other's town leaves -/
def GTo (G G' : zG) : Prop := gS G' ∧ G'.1 = G.1 + 11 ∧ (∀ c, c < G.1 → G'.2.1 c = G.2.1 c ∧ G'.2.2.1 c = G.2.2.1 c) ∧ (∀ c i, c < G.1 → ¬ (c = 91 ∧ (i = 3 ∨ i = 4)) → G'.2.2.2 c i = G.2.2.2 c i)
def MTo (G : zG) (h : zM) (r : pE ⊕ pD) (G' : zG) (h' : zM) : Prop := GTo G G' ∧ (∀ c i, c < 91 ∨ c = 92 → h' c i = h c i) ∧ h' 91 6 = 0 ∧ match r with
  | .inl e => 0 < e.1 ∧ h' 91 1 = 4 ∧ h' 91 13 = e.1 ∧ h' 91 2 = e.2 ∧ G'.2.2.2 91 3 = G.2.2.2 91 3 ∧ (∀ c i, c < G.1 → ¬ (c = 91 ∧ i < 16) → h' c i = h c i)
  | .inr D => h' 91 1 = 0 ∧ h' 91 13 = 0 ∧ h' 91 2 = -1 ∧ gU G' G.1 ∧ rT h' G.1 D.1 ∧ h' 91 30 = 0 ∧ h' 91 31 = 0 ∧ h' 91 47 = 0 ∧ (∀ i, i < 12 → h' 101 i = 0) ∧ (∀ i, i < 3 → h' 102 i = 0 ∧ h' 103 i = 0)
theorem m_townZ (hg : gS G) {u : Nat} (hv : gN G u) (u1 : 121 ≤ u) (hu : G.2.2.2 91 3 = some u) {x : Int} {B : Nat} (hB : h u 0 = (B : Int)) {k : Nat × Nat} (K : ∀ h' : zM, (∀ c i, ¬ (c = 91 ∧ (i = 1 ∨ i = 2 ∨ i = 30 ∨ i = 31 ∨ i = 47)) → ¬ c = 101 → ¬ c = 102 → ¬ c = 103 → h' c i = h c i) → h' 91 1 = 0 → h' 91 2 = -1 → h' 91 30 = 0 → h' 91 31 = 0 → h' 91 47 = 0 → (∀ i, i < 12 → h' 101 i = 0) → (∀ i, i < 3 → h' 102 i = 0 ∧ h' 103 i = 0) → Q (some (zI B)) G h') (hk : k = (11, 55)) : zE 140 (d + 7) Q 97 [some (zR (some 91)), some (zI x), none] [] G h k := by
  subst hk
  have l2 : ∀ j i (h1 : zM), i + j = 3 → (∀ c i', ¬ c = 101 → ¬ c = 102 → ¬ c = 103 → h1 c i' = h c i') → (∀ i', i' < 12 → h1 101 i' = 0) → (∀ i', i' < i → h1 102 i' = 0 ∧ h1 103 i' = 0) → zE 140 (d + 7) Q 120 [some (zR (some 91)), some (zI x), some (zI i)] [] G h1 (11, 55) := by
    intro j
    induction j with
    | zero =>
      intro i h1 hi f1 a1 a2
      have c : (3 : Int) ≤ i := by omega
      have hB1 : ∀ a b c' : Int, zu (zu (zu h1 91 30 a) 91 31 b) 91 47 c' u 0 = (B : Int) := fun a b c' => by rw [zu_c (by omega), zu_c (by omega), zu_c (by omega), f1 _ _ (by omega) (by omega) (by omega)]; exact hB
      have dn := fun h9 Q' => m_done (d := d + 6) (Q := Q') (G := G) (h := h9) (x := (B : Int)) hg
      rw [e140_120]
      simp only [e140_121, e140_122, e140_145, e140_146, e140_147, e140_150, e140_151, e140_152, e140_155, e140_156, e140_157, e140_160, e140_161, e140_162, e140_165, e140_168, e140_171, zs0, zsI, zsL, zsR, ztl1, ztl0, zc0, zcI, zcL, zcR, true_and, and_true, true_implies, false_implies, implies_true, not_true_eq_false, not_false_eq_true, and_self, Int.toNat_natCast, Nat.reduceAdd, Nat.reduceLeDiff, Nat.reduceLT, forall_eq', Option.some.injEq, zarR, zarI, zarL, zle, zq0, zq1, zq2, zq3, zq4, zq5, zq6, zq8, zq9, zq10, zq20, zq7, zq12, zq24, zq40, zq41, zq48, zq100, zq120, zq123, zq480, zq492, zq700, zq729, zq2187, zq2916, zq8748, ne_eq, Int.reduceEq, Int.reduceLT, Int.reduceLE, Int.reduceToNat, Int.reduceMul, Int.reduceAdd, Int.reduceNeg, gk91 hg, gr91_5 hg, gr91_22 hg, gr91_23 hg, gr91_24 hg, gr91_25 hg, gr91_26 hg, gr91_27 hg, gr91_28 hg, gr91_29 hg, gr91_32 hg, gr91_33 hg, gr91_34 hg, gr91_35 hg, gr91_36 hg, gr91_37 hg, gr91_38 hg, gr91_39 hg, gr91_40 hg, gr91_41 hg, gr91_42 hg, gr91_44 hg, gr91_45 hg, gr91_46 hg, gr91_48 hg, gr91_49 hg, gr91_50 hg, gr91_51 hg, gr91_52 hg, c, hu, hv, hB1, dn, true_or, or_true]
      apply K
      · intro c i z1 z2 z3 z4
        rw [zu, if_neg (by omega), zu, if_neg (by omega), zu, if_neg (by omega), zu, if_neg (by omega), zu, if_neg (by omega)]
        exact f1 c i z2 z3 z4
      · simp [zu]
      · simp [zu]
      · simp [zu]
      · simp [zu]
      · simp [zu]
      · intro i hi
        rw [zu_c (by omega), zu_c (by omega), zu_c (by omega), zu_c (by omega), zu_c (by omega)]
        exact a1 i hi
      · intro i' hi'
        rw [zu_c (by omega), zu_c (by omega), zu_c (by omega), zu_c (by omega), zu_c (by omega), zu_c (by omega), zu_c (by omega), zu_c (by omega), zu_c (by omega), zu_c (by omega)]
        exact a2 i' (by omega)
    | succ j ih =>
      intro i h1 hi f1 a1 a2
      have c : ¬ (3 : Int) ≤ i := by omega
      have i3 : (i : Int) < 3 := by omega
      rw [e140_120]
      simp only [e140_121, e140_122, e140_125, e140_126, e140_129, e140_130, e140_131, e140_132, e140_133, e140_136, e140_137, e140_138, e140_139, e140_142, zs0, zsI, zsL, zsR, ztl1, ztl0, zc0, zcI, zcL, zcR, true_and, and_true, true_implies, false_implies, implies_true, not_true_eq_false, not_false_eq_true, and_self, Int.toNat_natCast, Nat.reduceAdd, Nat.reduceLeDiff, Nat.reduceLT, forall_eq', Option.some.injEq, zarR, zarI, zarL, zle, zq0, zq1, zq2, zq3, zq4, zq5, zq6, zq8, zq9, zq10, zq20, zq7, zq12, zq24, zq40, zq41, zq48, zq100, zq120, zq123, zq480, zq492, zq700, zq729, zq2187, zq2916, zq8748, ne_eq, Int.reduceEq, Int.reduceLT, Int.reduceLE, Int.reduceToNat, Int.reduceMul, Int.reduceAdd, Int.reduceNeg, gk91 hg, gr91_5 hg, gr91_22 hg, gr91_23 hg, gr91_24 hg, gr91_25 hg, gr91_26 hg, gr91_27 hg, gr91_28 hg, gr91_29 hg, gr91_32 hg, gr91_33 hg, gr91_34 hg, gr91_35 hg, gr91_36 hg, gr91_37 hg, gr91_38 hg, gr91_39 hg, gr91_40 hg, gr91_41 hg, gr91_42 hg, gr91_44 hg, gr91_45 hg, gr91_46 hg, gr91_48 hg, gr91_49 hg, gr91_50 hg, gr91_51 hg, gr91_52 hg, gk102 hg, gl102 hg, gk103 hg, gl103 hg, c, i3, wr_s (show i < 2147483647 by omega)]
      apply ih (i + 1) _ (by omega)
      · intro c i' z1 z2 z3
        rw [zu_c z3, zu_c z2]
        exact f1 c i' z1 z2 z3
      · intro i' hi'
        rw [zu_c (by decide), zu_c (by decide)]
        exact a1 i' hi'
      · intro i' hi'
        by_cases z : i' = i
        · subst z
          exact ⟨by rw [zu_c (by decide), zu_at], by rw [zu_at]⟩
        · rw [zu_c (show ¬ 102 = 103 by decide), zu_i z, zu_i z, zu_c (show ¬ 103 = 102 by decide)]
          exact a2 i' (by omega)
  have l1 : ∀ j i (h1 : zM), i + j = 12 → (∀ c i', ¬ c = 101 → ¬ c = 102 → ¬ c = 103 → h1 c i' = h c i') → (∀ i', i' < i → h1 101 i' = 0) → zE 140 (d + 7) Q 99 [some (zR (some 91)), some (zI x), some (zI i)] [] G h1 (11, 55) := by
    intro j
    induction j with
    | zero =>
      intro i h1 hi f1 a1
      have c : (12 : Int) ≤ i := by omega
      have l0 := l2 3 0 h1 (by decide) f1 (fun i' z => a1 i' (by omega)) (fun i' z => by omega)
      rw [zq0] at l0
      rw [e140_99]
      simp only [e140_100, e140_102, e140_118, e140_119, zs0, zsI, zsL, zsR, ztl1, ztl0, zc0, zcI, zcL, zcR, true_and, and_true, true_implies, false_implies, implies_true, not_true_eq_false, not_false_eq_true, and_self, Int.toNat_natCast, Nat.reduceAdd, Nat.reduceLeDiff, Nat.reduceLT, forall_eq', Option.some.injEq, zarR, zarI, zarL, zle, zq0, zq1, zq2, zq3, zq4, zq5, zq6, zq8, zq9, zq10, zq20, zq7, zq12, zq24, zq40, zq41, zq48, zq100, zq120, zq123, zq480, zq492, zq700, zq729, zq2187, zq2916, zq8748, ne_eq, Int.reduceEq, Int.reduceLT, Int.reduceLE, Int.reduceToNat, Int.reduceMul, Int.reduceAdd, Int.reduceNeg, c]
      exact l0
    | succ j ih =>
      intro i h1 hi f1 a1
      have c : ¬ (12 : Int) ≤ i := by omega
      have i3 : (i : Int) < 24 := by omega
      rw [e140_99]
      simp only [e140_100, e140_102, e140_105, e140_106, e140_109, e140_110, e140_111, e140_112, e140_115, zs0, zsI, zsL, zsR, ztl1, ztl0, zc0, zcI, zcL, zcR, true_and, and_true, true_implies, false_implies, implies_true, not_true_eq_false, not_false_eq_true, and_self, Int.toNat_natCast, Nat.reduceAdd, Nat.reduceLeDiff, Nat.reduceLT, forall_eq', Option.some.injEq, zarR, zarI, zarL, zle, zq0, zq1, zq2, zq3, zq4, zq5, zq6, zq8, zq9, zq10, zq20, zq7, zq12, zq24, zq40, zq41, zq48, zq100, zq120, zq123, zq480, zq492, zq700, zq729, zq2187, zq2916, zq8748, ne_eq, Int.reduceEq, Int.reduceLT, Int.reduceLE, Int.reduceToNat, Int.reduceMul, Int.reduceAdd, Int.reduceNeg, gk91 hg, gr91_5 hg, gr91_22 hg, gr91_23 hg, gr91_24 hg, gr91_25 hg, gr91_26 hg, gr91_27 hg, gr91_28 hg, gr91_29 hg, gr91_32 hg, gr91_33 hg, gr91_34 hg, gr91_35 hg, gr91_36 hg, gr91_37 hg, gr91_38 hg, gr91_39 hg, gr91_40 hg, gr91_41 hg, gr91_42 hg, gr91_44 hg, gr91_45 hg, gr91_46 hg, gr91_48 hg, gr91_49 hg, gr91_50 hg, gr91_51 hg, gr91_52 hg, gk101 hg, gl101 hg, c, i3, wr_s (show i < 2147483647 by omega)]
      apply ih (i + 1) _ (by omega)
      · intro c i' z1 z2 z3
        rw [zu_c z1]
        exact f1 c i' z1 z2 z3
      · intro i' hi'
        by_cases z : i' = i
        · subst z
          rw [zu_at]
        · rw [zu_i z]
          exact a1 i' (by omega)
  have l0 := l1 12 0 h (by decide) (fun _ _ _ _ _ => rfl) (fun i' z => by omega)
  rw [zq0] at l0
  simp only [e140_97, e140_98, zs0, zsI, zsL, zsR, ztl1, ztl0, zc0, zcI, zcL, zcR, true_and, and_true, true_implies, false_implies, implies_true, not_true_eq_false, not_false_eq_true, and_self, Int.toNat_natCast, Nat.reduceAdd, Nat.reduceLeDiff, Nat.reduceLT, forall_eq', Option.some.injEq, zarR, zarI, zarL, zle, zq0, zq1, zq2, zq3, zq4, zq5, zq6, zq8, zq9, zq10, zq20, zq7, zq12, zq24, zq40, zq41, zq48, zq100, zq120, zq123, zq480, zq492, zq700, zq729, zq2187, zq2916, zq8748, ne_eq, Int.reduceEq, Int.reduceLT, Int.reduceLE, Int.reduceToNat, Int.reduceMul, Int.reduceAdd, Int.reduceNeg]
  exact l0
theorem m_town (hg : gS G) {n0 : Nat} (h6 : h 91 6 = (n0 : Int)) (hx : n ≤ n0) (hn : n ≤ 700) (ht : ∀ i, i < n → h 92 i = tp i ∧ -128 ≤ tp i ∧ tp i ≤ 127) (K : ∀ (G' : zG) (h' : zM), MTo G h (pAll tp n) G' h' → Q (some (zI (aTwn (pAll tp n)))) G' h') : zRunD ztb zmt' (d + 8) 140 [zR (some 91), zI n] G h Q := by
  rw [r140]
  have v1 : 121 ≤ G.1 := hg.1
  have x0 : ¬ (n : Int) < 0 := by omega
  have x1 : (n : Int) ≤ n0 := by omega
  obtain ⟨v, hvv⟩ : ∃ v, v = G.1 := ⟨_, rfl⟩
  obtain ⟨h1, e1⟩ : ∃ z, z = zu (zu (zu (zu (zu h 91 0 0) 91 7 n) 91 6 0) 91 8 0) 91 13 0 := ⟨_, rfl⟩
  have f1 : ∀ c i, ¬ (c = 91 ∧ (i = 0 ∨ i = 6 ∨ i = 7 ∨ i = 8 ∨ i = 13)) → h1 c i = h c i := fun c i z => by rw [e1, zu, if_neg (by omega), zu, if_neg (by omega), zu, if_neg (by omega), zu, if_neg (by omega), zu, if_neg (by omega)]
  simp only [e140_0, e140_1, e140_2, e140_5, e140_6, e140_9, e140_10, e140_11, e140_14, e140_17, e140_18, e140_19, e140_22, e140_23, e140_24, e140_25, e140_28, e140_29, e140_30, e140_33, e140_34, e140_35, e140_38, e140_39, e140_40, e140_43, zs0, zsI, zsL, zsR, ztl1, ztl0, zc0, zcI, zcL, zcR, true_and, and_true, true_implies, false_implies, implies_true, not_true_eq_false, not_false_eq_true, and_self, Int.toNat_natCast, Nat.reduceAdd, Nat.reduceLeDiff, Nat.reduceLT, forall_eq', Option.some.injEq, zarR, zarI, zarL, zle, zq0, zq1, zq2, zq3, zq4, zq5, zq6, zq8, zq9, zq10, zq20, zq7, zq12, zq24, zq40, zq41, zq48, zq100, zq120, zq123, zq480, zq492, zq700, zq729, zq2187, zq2916, zq8748, ne_eq, Int.reduceEq, Int.reduceLT, Int.reduceLE, Int.reduceToNat, Int.reduceMul, Int.reduceAdd, Int.reduceNeg, gk91 hg, gr91_5 hg, gr91_22 hg, gr91_23 hg, gr91_24 hg, gr91_25 hg, gr91_26 hg, gr91_27 hg, gr91_28 hg, gr91_29 hg, gr91_32 hg, gr91_33 hg, gr91_34 hg, gr91_35 hg, gr91_36 hg, gr91_37 hg, gr91_38 hg, gr91_39 hg, gr91_40 hg, gr91_41 hg, gr91_42 hg, gr91_44 hg, gr91_45 hg, gr91_46 hg, gr91_48 hg, gr91_49 hg, gr91_50 hg, gr91_51 hg, gr91_52 hg, x0, zu_i (show ¬ 6 = 0 by decide), h6, x1]
  rw [← e1]
  -- the new record
  have hG1 : (zgn G 8 16).1 = v + 1 := by rw [hvv]; rfl
  have hk1 : (zgn G 8 16).2.1 v = 8 := by rw [hvv, zgn_k, if_pos rfl]
  have mi := fun Q' => m_init (d := d + 6) (Q := Q') (G := zgn G 8 16) (h := zhn h1 v) (v := v) hG1 hk1
  obtain ⟨G2, eG2⟩ : ∃ z, z = al3 (zgn G 8 16) v := ⟨_, rfl⟩
  have lo := al3_lo (G := zgn G 8 16) (v := v) hG1
  have gn2 := al3_n (G := zgn G 8 16) (v := v) hG1 hk1
  rw [← eG2] at lo gn2 mi
  obtain ⟨lo1, lo2, lo3⟩ := lo
  have k2 : ∀ c, c < v → G2.2.1 c = G.2.1 c ∧ G2.2.2.1 c = G.2.2.1 c := fun c hc => by
    have := lo2 c (by omega)
    rw [this.1, this.2, zgn_k, zgn_l, if_neg (by omega), if_neg (by omega)]
    exact ⟨rfl, rfl⟩
  have r2 : ∀ c i, c < v → G2.2.2.2 c i = G.2.2.2 c i := fun c i hc => by rw [lo3 c i hc, zgn_r, if_neg (by omega)]
  have hg2 : gS G2 := by
    obtain ⟨a, b, c', e'⟩ := hg
    refine ⟨by omega, fun c hc => by rw [(k2 c (by omega)).1]; exact b c hc, fun c hc => by rw [(k2 c (by omega)).2]; exact c' c hc, fun e he => ?_⟩
    have el : e.1 < 121 := gRf_lt e he
    rw [r2 _ _ (by omega)]
    exact e' e he
  have kk2 := gk91 hg2
  obtain ⟨h2, e2⟩ : ∃ z, z = hl3 (zhn h1 v) v := ⟨_, rfl⟩
  rw [← e2] at mi
  have f2 : ∀ c i, c < v → h2 c i = h1 c i := fun c i hc => by
    rw [e2]
    unfold hl3 zhn
    rw [if_neg (by omega), if_neg (by omega), if_neg (by omega)]
  have z2 : ∀ i, ¬ i = 3 → h2 v i = 0 := fun i hi => by
    rw [e2]
    unfold hl3 zhn
    rw [if_neg (by omega), if_neg (by omega), if_pos rfl]
  have z3 : h2 v 3 = -1 := by
    rw [e2]
    unfold hl3
    rw [if_neg (by omega), if_pos ⟨rfl, rfl⟩]
  simp only [e140_44, e140_47, e140_48, zs0, zsI, zsL, zsR, ztl1, ztl0, zc0, zcI, zcL, zcR, true_and, and_true, true_implies, false_implies, implies_true, not_true_eq_false, not_false_eq_true, and_self, Int.toNat_natCast, Nat.reduceAdd, Nat.reduceLeDiff, Nat.reduceLT, forall_eq', Option.some.injEq, zarR, zarI, zarL, zle, zq0, zq1, zq2, zq3, zq4, zq5, zq6, zq8, zq9, zq10, zq20, zq7, zq12, zq24, zq40, zq41, zq48, zq100, zq120, zq123, zq480, zq492, zq700, zq729, zq2187, zq2916, zq8748, ne_eq, Int.reduceEq, Int.reduceLT, Int.reduceLE, Int.reduceToNat, Int.reduceMul, Int.reduceAdd, Int.reduceNeg, gk91 hg, gr91_5 hg, gr91_22 hg, gr91_23 hg, gr91_24 hg, gr91_25 hg, gr91_26 hg, gr91_27 hg, gr91_28 hg, gr91_29 hg, gr91_32 hg, gr91_33 hg, gr91_34 hg, gr91_35 hg, gr91_36 hg, gr91_37 hg, gr91_38 hg, gr91_39 hg, gr91_40 hg, gr91_41 hg, gr91_42 hg, gr91_44 hg, gr91_45 hg, gr91_46 hg, gr91_48 hg, gr91_49 hg, gr91_50 hg, gr91_51 hg, gr91_52 hg, ← hvv, hk1, mi]
  obtain ⟨G3, eG3⟩ : ∃ z, z = zgu G2 91 4 (some v) := ⟨_, rfl⟩
  have hg3 : gS G3 := by rw [eG3]; exact gS_gu hg2 gRf_4
  have hv3 : gV G3 v := by
    rw [eG3]
    exact gV_of (by omega) (by rw [zgu_r, if_pos ⟨rfl, rfl⟩]) (gN_gu (by omega) gn2)
  have gn3 : gN G3 v := by rw [eG3]; exact gN_gu (by omega) gn2
  have k3 : ∀ c, c < v → G3.2.1 c = G.2.1 c ∧ G3.2.2.1 c = G.2.2.1 c := by rw [eG3]; exact k2
  have r3 : ∀ c i, c < v → ¬ (c = 91 ∧ i = 4) → G3.2.2.2 c i = G.2.2.2 c i := fun c i hc hz => by rw [eG3, zgu_r, if_neg hz]; exact r2 c i hc
  have l3 : G3.1 = v + 11 := by rw [eG3]; exact lo1
  simp only [e140_51, zs0, zsI, zsL, zsR, ztl1, ztl0, zc0, zcI, zcL, zcR, true_and, and_true, true_implies, false_implies, implies_true, not_true_eq_false, not_false_eq_true, and_self, Int.toNat_natCast, Nat.reduceAdd, Nat.reduceLeDiff, Nat.reduceLT, forall_eq', Option.some.injEq, zarR, zarI, zarL, zle, zq0, zq1, zq2, zq3, zq4, zq5, zq6, zq8, zq9, zq10, zq20, zq7, zq12, zq24, zq40, zq41, zq48, zq100, zq120, zq123, zq480, zq492, zq700, zq729, zq2187, zq2916, zq8748, ne_eq, Int.reduceEq, Int.reduceLT, Int.reduceLE, Int.reduceToNat, Int.reduceMul, Int.reduceAdd, Int.reduceNeg, kk2]
  rw [← eG3]
  clear hg
  have hg := hg3
  obtain ⟨h3, e3⟩ : ∃ z, z = zu h2 91 9 0 := ⟨_, rfl⟩
  have T3 : MT tp n h3 := by
    refine ⟨?_, hn, fun i hi => ?_⟩
    · rw [e3, zu_i (by decide), f2 _ _ (by omega), e1]; simp [zu]
    · rw [e3, zu_c (by decide), f2 _ _ (by omega), f1 _ _ (by omega)]; exact ht i hi
  simp only [e140_54, e140_55, e140_56, e140_59, e140_60, zs0, zsI, zsL, zsR, ztl1, ztl0, zc0, zcI, zcL, zcR, true_and, and_true, true_implies, false_implies, implies_true, not_true_eq_false, not_false_eq_true, and_self, Int.toNat_natCast, Nat.reduceAdd, Nat.reduceLeDiff, Nat.reduceLT, forall_eq', Option.some.injEq, zarR, zarI, zarL, zle, zq0, zq1, zq2, zq3, zq4, zq5, zq6, zq8, zq9, zq10, zq20, zq7, zq12, zq24, zq40, zq41, zq48, zq100, zq120, zq123, zq480, zq492, zq700, zq729, zq2187, zq2916, zq8748, ne_eq, Int.reduceEq, Int.reduceLT, Int.reduceLE, Int.reduceToNat, Int.reduceMul, Int.reduceAdd, Int.reduceNeg, gk91 hg, gr91_5 hg, gr91_22 hg, gr91_23 hg, gr91_24 hg, gr91_25 hg, gr91_26 hg, gr91_27 hg, gr91_28 hg, gr91_29 hg, gr91_32 hg, gr91_33 hg, gr91_34 hg, gr91_35 hg, gr91_36 hg, gr91_37 hg, gr91_38 hg, gr91_39 hg, gr91_40 hg, gr91_41 hg, gr91_42 hg, gr91_44 hg, gr91_45 hg, gr91_46 hg, gr91_48 hg, gr91_49 hg, gr91_50 hg, gr91_51 hg, gr91_52 hg]
  rw [← e3]
  apply m_next (d := d + 5) (q := 0) hg T3 (by rw [e3, zu_at]; decide) (by rw [e3, zu_i (by decide), f2 _ _ (by omega), e1]; simp [zu]) (Nat.zero_le _)
  intro h4 f4 t4
  have T4 : MT tp n h4 := MT_fr T3 (f4 _ _ (by unfold tkc; omega)) (fun i => f4 _ _ (by unfold tkc; omega))
  have v4 : ∀ c i, v ≤ c → h4 c i = h2 c i := fun c i hc => by rw [f4 c i (by unfold tkc; omega), e3, zu_c (by omega)]
  have c4 : MS tp n (.inr 0) h4 := ⟨T4, by rw [f4 _ _ (by unfold tkc; omega), e3, zu_i (by decide), f2 _ _ (by omega), e1, zu_at], t4⟩
  have D4 : DM tp v h4 (T00, [], 0) := by
    refine ⟨⟨?_, ?_, ?_, ?_, ?_, ?_, ?_, ?_, ?_, ?_, ?_, ?_⟩, ?_, ?_, ?_, ?_⟩
    · rw [v4 _ _ (by omega), z2 _ (by decide)]; rfl
    · rw [v4 _ _ (by omega), z2 _ (by decide)]; rfl
    · rw [v4 _ _ (by omega), z2 _ (by decide)]; rfl
    · intro i hi; exact absurd hi (Nat.not_lt_zero _)
    · intro i hi; exact absurd hi (Nat.not_lt_zero _)
    · intro i hi; exact absurd hi (Nat.not_lt_zero _)
    · intro i hi; exact absurd hi (Nat.not_lt_zero _)
    · intro i hi; exact absurd hi (Nat.not_lt_zero _)
    · intro i hi; exact absurd hi (Nat.not_lt_zero _)
    · intro i hi; exact absurd hi (Nat.not_lt_zero _)
    · intro i hi; exact absurd hi (Nat.not_lt_zero _)
    · intro i hi; exact absurd hi (Nat.not_lt_zero _)
    · intro hi; exact absurd hi (Nat.not_lt_zero _)
    · rw [v4 _ _ (by omega), z3]; rfl
    · rw [v4 _ _ (by omega), z2 _ (by decide)]; rfl
    · intro i p hp; simp at hp
  simp only [e140_63, e140_64, zs0, zsI, zsL, zsR, ztl1, ztl0, zc0, zcI, zcL, zcR, true_and, and_true, true_implies, false_implies, implies_true, not_true_eq_false, not_false_eq_true, and_self, Int.toNat_natCast, Nat.reduceAdd, Nat.reduceLeDiff, Nat.reduceLT, forall_eq', Option.some.injEq, zarR, zarI, zarL, zle, zq0, zq1, zq2, zq3, zq4, zq5, zq6, zq8, zq9, zq10, zq20, zq7, zq12, zq24, zq40, zq41, zq48, zq100, zq120, zq123, zq480, zq492, zq700, zq729, zq2187, zq2916, zq8748, ne_eq, Int.reduceEq, Int.reduceLT, Int.reduceLE, Int.reduceToNat, Int.reduceMul, Int.reduceAdd, Int.reduceNeg, gk91 hg, gr91_5 hg, gr91_22 hg, gr91_23 hg, gr91_24 hg, gr91_25 hg, gr91_26 hg, gr91_27 hg, gr91_28 hg, gr91_29 hg, gr91_32 hg, gr91_33 hg, gr91_34 hg, gr91_35 hg, gr91_36 hg, gr91_37 hg, gr91_38 hg, gr91_39 hg, gr91_40 hg, gr91_41 hg, gr91_42 hg, gr91_44 hg, gr91_45 hg, gr91_46 hg, gr91_48 hg, gr91_49 hg, gr91_50 hg, gr91_51 hg, gr91_52 hg]
  apply m_readTown (d := d) hg hv3 c4 D4
  intro h5 f5 r5
  have f05 : ∀ c i, c < v → ¬ (c = 91 ∧ i < 16) → h5 c i = h c i := fun c i hc hz => by rw [f5 c i (by omega) hc, f4 c i (by unfold tkc; omega), e3, zu, if_neg (by omega), f2 c i hc, f1 c i (by omega)]
  have e56 : h5 91 6 = 0 := by rw [f5 _ _ (by omega) (by omega), f4 _ _ (by unfold tkc; omega), e3, zu_i (by decide), f2 _ _ (by omega), e1]; simp [zu]
  generalize hr : pAll tp n = r at r5 K
  cases r with
  | inl e =>
    obtain ⟨p1, p2, p3⟩ := r5
    have n0 : ¬ e.1 ≤ 0 := by omega
    simp only [e140_67, e140_68, e140_71, e140_74, e140_75, e140_76, e140_79, e140_80, e140_81, e140_84, e140_87, e140_88, zs0, zsI, zsL, zsR, ztl1, ztl0, zc0, zcI, zcL, zcR, true_and, and_true, true_implies, false_implies, implies_true, not_true_eq_false, not_false_eq_true, and_self, Int.toNat_natCast, Nat.reduceAdd, Nat.reduceLeDiff, Nat.reduceLT, forall_eq', Option.some.injEq, zarR, zarI, zarL, zle, zq0, zq1, zq2, zq3, zq4, zq5, zq6, zq8, zq9, zq10, zq20, zq7, zq12, zq24, zq40, zq41, zq48, zq100, zq120, zq123, zq480, zq492, zq700, zq729, zq2187, zq2916, zq8748, ne_eq, Int.reduceEq, Int.reduceLT, Int.reduceLE, Int.reduceToNat, Int.reduceMul, Int.reduceAdd, Int.reduceNeg, gk91 hg, gr91_5 hg, gr91_22 hg, gr91_23 hg, gr91_24 hg, gr91_25 hg, gr91_26 hg, gr91_27 hg, gr91_28 hg, gr91_29 hg, gr91_32 hg, gr91_33 hg, gr91_34 hg, gr91_35 hg, gr91_36 hg, gr91_37 hg, gr91_38 hg, gr91_39 hg, gr91_40 hg, gr91_41 hg, gr91_42 hg, gr91_44 hg, gr91_45 hg, gr91_46 hg, gr91_48 hg, gr91_49 hg, gr91_50 hg, gr91_51 hg, gr91_52 hg, p2, n0, zu_i (show ¬ 14 = 1 by decide), p3]
    apply K
    refine ⟨⟨hg3, by rw [l3, hvv], fun c hc => k3 c (by omega), fun c i hc hz => r3 c i (by omega) (by omega)⟩, fun c i z => ?_, ?_, p1, ?_, ?_, ?_, ?_, fun c i hc hz => ?_⟩
    · rw [zu_c (by omega), zu_c (by omega)]; exact f05 c i (by omega) (by omega)
    · rw [zu_i (by decide), zu_i (by decide)]; exact e56
    · rw [zu_i (by decide), zu_at]
    · rw [zu_i (by decide), zu_i (by decide)]; exact p2
    · rw [zu_at]
    · exact r3 _ _ (by omega) (by omega)
    · rw [zu, if_neg (by omega), zu, if_neg (by omega)]; exact f05 c i (by omega) hz
  | inr D =>
    obtain ⟨p1, pD, pB, pW, lk⟩ := r5
    obtain ⟨⟨q1, q2, q3, q4, q5, q6, q7, q8, q9, q10, q11, q12⟩, rtw, rkp, rL, rN⟩ := pD
    have e4 : G3.2.2.2 91 4 = some v := hv3.2.1
    simp only [e140_67, e140_68, e140_71, e140_74, e140_75, e140_76, e140_79, e140_80, e140_81, e140_84, e140_87, e140_88, e140_89, e140_90, e140_91, e140_94, zs0, zsI, zsL, zsR, ztl1, ztl0, zc0, zcI, zcL, zcR, true_and, and_true, true_implies, false_implies, implies_true, not_true_eq_false, not_false_eq_true, and_self, Int.toNat_natCast, Nat.reduceAdd, Nat.reduceLeDiff, Nat.reduceLT, forall_eq', Option.some.injEq, zarR, zarI, zarL, zle, zq0, zq1, zq2, zq3, zq4, zq5, zq6, zq8, zq9, zq10, zq20, zq7, zq12, zq24, zq40, zq41, zq48, zq100, zq120, zq123, zq480, zq492, zq700, zq729, zq2187, zq2916, zq8748, ne_eq, Int.reduceEq, Int.reduceLT, Int.reduceLE, Int.reduceToNat, Int.reduceMul, Int.reduceAdd, Int.reduceNeg, gk91 hg, gr91_5 hg, gr91_22 hg, gr91_23 hg, gr91_24 hg, gr91_25 hg, gr91_26 hg, gr91_27 hg, gr91_28 hg, gr91_29 hg, gr91_32 hg, gr91_33 hg, gr91_34 hg, gr91_35 hg, gr91_36 hg, gr91_37 hg, gr91_38 hg, gr91_39 hg, gr91_40 hg, gr91_41 hg, gr91_42 hg, gr91_44 hg, gr91_45 hg, gr91_46 hg, gr91_48 hg, gr91_49 hg, gr91_50 hg, gr91_51 hg, gr91_52 hg, p1, e4]
    obtain ⟨G4, eG4⟩ : ∃ z, z = zgu G3 91 3 (some v) := ⟨_, rfl⟩
    have hg4 : gS G4 := by rw [eG4]; exact gS_gu hg3 gRf_3
    have gn4 : gN G4 v := by rw [eG4]; exact gN_gu (by omega) gn3
    have u4 : G4.2.2.2 91 3 = some v := by rw [eG4, zgu_r, if_pos ⟨rfl, rfl⟩]
    rw [← eG4]
    apply m_townZ hg4 gn4 (by omega) u4 (B := nB D.1) q1 _ rfl
    intro h6 f6 a1 a2 a30 a31 a47 a101 a102
    have v6 : ∀ c i, v ≤ c → h6 c i = h5 c i := fun c i hc => f6 c i (by omega) (by omega) (by omega) (by omega)
    apply K
    refine ⟨⟨hg4, by rw [eG4, zgu_1, l3, hvv], fun c hc => by rw [eG4]; exact k3 c (by omega), fun c i hc hz => by rw [eG4, zgu_r, if_neg (by omega)]; exact r3 c i (by omega) (by omega)⟩, fun c i z => ?_, ?_, a1, ?_, a2, ?_, ?_, a30, a31, a47, a101, a102⟩
    · rw [f6 c i (by omega) (by omega) (by omega) (by omega)]; exact f05 c i (by omega) (by omega)
    · rw [f6 _ _ (by omega) (by omega) (by omega) (by omega)]; exact e56
    · rw [f6 _ _ (by omega) (by omega) (by omega) (by omega)]; exact p1
    · rw [← hvv]; exact gU_of (by omega) u4 gn4
    · rw [← hvv]
      refine ⟨?_, ?_, ?_, ?_, ?_, ?_, ?_, ?_, ?_, ?_, ?_, ?_, ?_, ?_⟩
      · rw [v6 _ _ (by omega)]; exact q1
      · rw [v6 _ _ (by omega)]; exact q2
      · rw [v6 _ _ (by omega)]; exact q3
      · rw [v6 _ _ (by omega), rkp, if_neg (by omega)]
      · rw [v6 _ _ (by omega)]; exact rtw (by omega)
      · intro i hi; rw [v6 _ _ (by omega)]; exact q4 i hi
      · intro i hi; rw [v6 _ _ (by omega)]; exact q5 i hi
      · intro i hi; rw [v6 _ _ (by omega)]; exact q6 i hi
      · intro i hi; rw [v6 _ _ (by omega)]; exact q7 i hi
      · intro i hi; rw [v6 _ _ (by omega)]; exact q8 i hi
      · intro i hi; rw [v6 _ _ (by omega)]; exact q9 i hi
      · intro i hi; rw [v6 _ _ (by omega)]; exact q10 i hi
      · intro i hi; rw [v6 _ _ (by omega)]; exact q11 i hi
      · intro i hi; rw [v6 _ _ (by omega)]; exact q12 i hi
end MT2
