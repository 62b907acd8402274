/-- the other's reader: dead of a fault at a place, or at a token -/
def MS (tp : Nat → Int) (n : Nat) (s : pE ⊕ Nat) (h : zM) : Prop := MT tp n h ∧ match s with
  | .inl e => h 91 9 = 5 ∧ 0 < e.1 ∧ h 91 13 = e.1 ∧ h 91 14 = e.2
  | .inr q => h 91 13 = 0 ∧ TKm tp n h q
def mfm (h h' : zM) : Prop := ∀ c i, ¬ (c = 91 ∧ 8 ≤ i ∧ i ≤ 15) → h' c i = h c i
theorem mfm.tr {h h1 h2 : zM} (a : mfm h h1) (b : mfm h1 h2) : mfm h h2 := fun c i q => (b c i q).trans (a c i q)
theorem mfm.rf {h : zM} : mfm h h := fun _ _ _ => rfl
theorem TKm_fr {tp : Nat → Int} {n q : Nat} {h h' : zM} (T : TKm tp n h q) (f : ∀ i, 8 ≤ i → i ≤ 15 → h' 91 i = h 91 i) : TKm tp n h' q := by
  obtain ⟨a, b, c, e, g, k, l, m⟩ := T
  refine ⟨a, ?_, ?_, ?_, ?_, ?_, ?_, ?_⟩
  · rw [f 9 (by decide) (by decide)]; exact b
  · rw [f 10 (by decide) (by decide)]; exact c
  · rw [f 15 (by decide) (by decide)]; exact e
  · rw [f 12 (by decide) (by decide)]; exact g
  · rw [f 11 (by decide) (by decide)]; exact k
  · rw [f 11 (by decide) (by decide)]; exact l
  · rw [f 8 (by decide) (by decide)]; exact m
theorem MS_fr {tp : Nat → Int} {n : Nat} {s : pE ⊕ Nat} {h h' : zM} (c : MS tp n s h) (f : ∀ i, 7 ≤ i → i ≤ 15 → h' 91 i = h 91 i) (f2 : ∀ i, h' 92 i = h 92 i) : MS tp n s h' := by
  refine ⟨MT_fr c.1 (f 7 (by decide) (by decide)) f2, ?_⟩
  rcases s with e | q
  · obtain ⟨a, b, e', g⟩ := c.2
    exact ⟨by rw [f 9 (by decide) (by decide)]; exact a, b, by rw [f 13 (by decide) (by decide)]; exact e', by rw [f 14 (by decide) (by decide)]; exact g⟩
  · obtain ⟨a, T⟩ := c.2
    exact ⟨by rw [f 13 (by decide) (by decide)]; exact a, TKm_fr T (fun i z1 z2 => f i (by omega) z2)⟩
theorem soK_5 (k : Nat) : ¬ soK k = 5 := by
  unfold soK
  split
  · decide
  · split
    · decide
    · split
      · decide
      · split <;> decide
theorem so_3 {k : Nat} (h : ¬ k = 2) : ¬ soK k = 3 := by
  unfold soK
  rw [if_neg h]
  split
  · decide
  · split
    · decide
    · split <;> decide
theorem so_2 {k : Nat} (h : ¬ k = 1) : ¬ soK k = 2 := by
  unfold soK
  rw [if_neg h]
  split
  · decide
  · split
    · decide
    · split <;> decide
section MW
variable {d : Nat} {Q : zQ} {G : zG} {h : zM} {n q id : Nat} {tp : Nat → Int} {s : pE ⊕ Nat}
theorem MS_9 {q : Nat} (c : MS tp n (.inr q) h) : ¬ h 91 9 = 5 := by
  rw [c.2.2.2.1]
  exact soK_5 _
theorem MS_die {q : Nat} (c : MS tp n (.inr q) h) {a b : Int} (ha : 0 < a) : MS tp n (.inl (a, b)) (zu (zu (zu h 91 13 a) 91 14 b) 91 9 5) := by
  refine ⟨MT_fr c.1 (by rw [zu_i (by decide), zu_i (by decide), zu_i (by decide)]) (fun i => by rw [zu_c (by decide), zu_c (by decide), zu_c (by decide)]), zu_at, ha, ?_, ?_⟩
  · rw [zu_i (by decide), zu_i (by decide), zu_at]
  · rw [zu_i (by decide), zu_at]
theorem mfm_die {a b : Int} : mfm h (zu (zu (zu h 91 13 a) 91 14 b) 91 9 5) := fun c i z => by rw [zu, if_neg (by omega), zu, if_neg (by omega), zu, if_neg (by omega)]
theorem m_wrongHere (hg : gS G) {a b : Int} (h9 : ¬ h 91 9 = 5) : zRunD ztb zmt' (d + 1) 127 [zR (some 91), zI a, zI b] G h Q ↔ Q none G (zu (zu (zu h 91 13 a) 91 14 b) 91 9 5) := by
  rw [r127]
  simp only [e127_0, e127_1, e127_4, e127_5, e127_8, e127_9, e127_10, e127_11, e127_14, e127_15, e127_16, e127_19, e127_20, e127_21, e127_24, zs0, zsI, zsL, zsR, ztl1, ztl0, zc0, zcI, zcL, zcR, true_and, and_true, true_implies, false_implies, implies_true, not_true_eq_false, not_false_eq_true, and_self, Int.toNat_natCast, Nat.reduceAdd, Nat.reduceLeDiff, Nat.reduceLT, forall_eq', Option.some.injEq, zarR, zarI, zarL, zle, zq0, zq1, zq2, zq3, zq4, zq5, zq6, zq8, zq9, zq10, zq20, zq7, zq12, zq24, zq40, zq41, zq48, zq100, zq120, zq123, zq480, zq492, zq700, zq729, zq2187, zq2916, zq8748, ne_eq, Int.reduceEq, Int.reduceLT, Int.reduceLE, Int.reduceToNat, Int.reduceMul, Int.reduceAdd, Int.reduceNeg, gk91 hg, gr91_5 hg, gr91_22 hg, gr91_23 hg, gr91_24 hg, gr91_25 hg, gr91_26 hg, gr91_27 hg, gr91_28 hg, gr91_29 hg, gr91_32 hg, gr91_33 hg, gr91_34 hg, gr91_35 hg, gr91_36 hg, gr91_37 hg, gr91_38 hg, gr91_39 hg, gr91_40 hg, gr91_41 hg, gr91_42 hg, gr91_44 hg, gr91_45 hg, gr91_46 hg, gr91_48 hg, gr91_49 hg, gr91_50 hg, gr91_51 hg, gr91_52 hg, or_true, true_or, if_true, if_false, false_and, and_false, false_or, or_false, h9]
theorem m_wrongHere' (hg : gS G) {a b : Int} (h9 : h 91 9 = 5) : zRunD ztb zmt' (d + 1) 127 [zR (some 91), zI a, zI b] G h Q ↔ Q none G h := by
  rw [r127]
  simp only [e127_0, e127_1, e127_4, e127_5, e127_8, e127_9, e127_10, e127_11, e127_14, e127_15, e127_16, e127_19, e127_20, e127_21, e127_24, zs0, zsI, zsL, zsR, ztl1, ztl0, zc0, zcI, zcL, zcR, true_and, and_true, true_implies, false_implies, implies_true, not_true_eq_false, not_false_eq_true, and_self, Int.toNat_natCast, Nat.reduceAdd, Nat.reduceLeDiff, Nat.reduceLT, forall_eq', Option.some.injEq, zarR, zarI, zarL, zle, zq0, zq1, zq2, zq3, zq4, zq5, zq6, zq8, zq9, zq10, zq20, zq7, zq12, zq24, zq40, zq41, zq48, zq100, zq120, zq123, zq480, zq492, zq700, zq729, zq2187, zq2916, zq8748, ne_eq, Int.reduceEq, Int.reduceLT, Int.reduceLE, Int.reduceToNat, Int.reduceMul, Int.reduceAdd, Int.reduceNeg, gk91 hg, gr91_5 hg, gr91_22 hg, gr91_23 hg, gr91_24 hg, gr91_25 hg, gr91_26 hg, gr91_27 hg, gr91_28 hg, gr91_29 hg, gr91_32 hg, gr91_33 hg, gr91_34 hg, gr91_35 hg, gr91_36 hg, gr91_37 hg, gr91_38 hg, gr91_39 hg, gr91_40 hg, gr91_41 hg, gr91_42 hg, gr91_44 hg, gr91_45 hg, gr91_46 hg, gr91_48 hg, gr91_49 hg, gr91_50 hg, gr91_51 hg, gr91_52 hg, or_true, true_or, if_true, if_false, false_and, and_false, false_or, or_false, h9]
theorem m_wrong (hg : gS G) {a : Int} (h9 : ¬ h 91 9 = 5) : zRunD ztb zmt' (d + 2) 126 [zR (some 91), zI a] G h Q ↔ Q none G (zu (zu (zu h 91 13 a) 91 14 (h 91 10)) 91 9 5) := by
  rw [r126]
  have w := fun Q' => m_wrongHere (d := d) (Q := Q') (h := h) (a := a) (b := h 91 10) hg h9
  simp only [e126_0, e126_1, e126_2, e126_3, e126_6, e126_9, zs0, zsI, zsL, zsR, ztl1, ztl0, zc0, zcI, zcL, zcR, true_and, and_true, true_implies, false_implies, implies_true, not_true_eq_false, not_false_eq_true, and_self, Int.toNat_natCast, Nat.reduceAdd, Nat.reduceLeDiff, Nat.reduceLT, forall_eq', Option.some.injEq, zarR, zarI, zarL, zle, zq0, zq1, zq2, zq3, zq4, zq5, zq6, zq8, zq9, zq10, zq20, zq7, zq12, zq24, zq40, zq41, zq48, zq100, zq120, zq123, zq480, zq492, zq700, zq729, zq2187, zq2916, zq8748, ne_eq, Int.reduceEq, Int.reduceLT, Int.reduceLE, Int.reduceToNat, Int.reduceMul, Int.reduceAdd, Int.reduceNeg, gk91 hg, gr91_5 hg, gr91_22 hg, gr91_23 hg, gr91_24 hg, gr91_25 hg, gr91_26 hg, gr91_27 hg, gr91_28 hg, gr91_29 hg, gr91_32 hg, gr91_33 hg, gr91_34 hg, gr91_35 hg, gr91_36 hg, gr91_37 hg, gr91_38 hg, gr91_39 hg, gr91_40 hg, gr91_41 hg, gr91_42 hg, gr91_44 hg, gr91_45 hg, gr91_46 hg, gr91_48 hg, gr91_49 hg, gr91_50 hg, gr91_51 hg, gr91_52 hg, or_true, true_or, if_true, if_false, false_and, and_false, false_or, or_false, w]
theorem m_wrong' (hg : gS G) {a : Int} (h9 : h 91 9 = 5) : zRunD ztb zmt' (d + 2) 126 [zR (some 91), zI a] G h Q ↔ Q none G h := by
  rw [r126]
  have w := fun Q' => m_wrongHere' (d := d) (Q := Q') (h := h) (a := a) (b := h 91 10) hg h9
  simp only [e126_0, e126_1, e126_2, e126_3, e126_6, e126_9, zs0, zsI, zsL, zsR, ztl1, ztl0, zc0, zcI, zcL, zcR, true_and, and_true, true_implies, false_implies, implies_true, not_true_eq_false, not_false_eq_true, and_self, Int.toNat_natCast, Nat.reduceAdd, Nat.reduceLeDiff, Nat.reduceLT, forall_eq', Option.some.injEq, zarR, zarI, zarL, zle, zq0, zq1, zq2, zq3, zq4, zq5, zq6, zq8, zq9, zq10, zq20, zq7, zq12, zq24, zq40, zq41, zq48, zq100, zq120, zq123, zq480, zq492, zq700, zq729, zq2187, zq2916, zq8748, ne_eq, Int.reduceEq, Int.reduceLT, Int.reduceLE, Int.reduceToNat, Int.reduceMul, Int.reduceAdd, Int.reduceNeg, gk91 hg, gr91_5 hg, gr91_22 hg, gr91_23 hg, gr91_24 hg, gr91_25 hg, gr91_26 hg, gr91_27 hg, gr91_28 hg, gr91_29 hg, gr91_32 hg, gr91_33 hg, gr91_34 hg, gr91_35 hg, gr91_36 hg, gr91_37 hg, gr91_38 hg, gr91_39 hg, gr91_40 hg, gr91_41 hg, gr91_42 hg, gr91_44 hg, gr91_45 hg, gr91_46 hg, gr91_48 hg, gr91_49 hg, gr91_50 hg, gr91_51 hg, gr91_52 hg, or_true, true_or, if_true, if_false, false_and, and_false, false_or, or_false, w]
/-- a fault where a token stands, or none after a fault -/
def pDie (tp : Nat → Int) (n : Nat) (a : Int) (q : Nat) : pE ⊕ Nat := .inl (a, (st tp n q : Nat))
theorem m_wrongS (hg : gS G) (c : MS tp n s h) {a : Int} (ha : 0 < a) (K : ∀ h' : zM, mfm h h' → MS tp n (sP s (pDie tp n a)) h' → Q none G h') : zRunD ztb zmt' (d + 2) 126 [zR (some 91), zI a] G h Q := by
  rcases s with e | q
  · rw [m_wrong' hg c.2.1]
    exact K h mfm.rf c
  · rw [m_wrong hg (MS_9 c)]
    apply K _ mfm_die
    rw [c.2.2.2.2.1]
    exact MS_die c ha
theorem m_go (hg : gS G) (c : MS tp n s h) (hk : ∀ q, s = .inr q → ¬ kd tp n q = 5) (K : ∀ h' : zM, mfm h h' → (∀ e, s = .inl e → h' = h) → MS tp n (sP s (fun q => .inr (nxt tp n q))) h' → Q none G h') : zRunD ztb zmt' (d + 2) 125 [zR (some 91)] G h Q := by
  rcases s with e | q
  · rw [r125]
    have h9 := c.2.1
    simp only [e125_0, e125_1, e125_4, e125_5, e125_8, zs0, zsI, zsL, zsR, ztl1, ztl0, zc0, zcI, zcL, zcR, true_and, and_true, true_implies, false_implies, implies_true, not_true_eq_false, not_false_eq_true, and_self, Int.toNat_natCast, Nat.reduceAdd, Nat.reduceLeDiff, Nat.reduceLT, forall_eq', Option.some.injEq, zarR, zarI, zarL, zle, zq0, zq1, zq2, zq3, zq4, zq5, zq6, zq8, zq9, zq10, zq20, zq7, zq12, zq24, zq40, zq41, zq48, zq100, zq120, zq123, zq480, zq492, zq700, zq729, zq2187, zq2916, zq8748, ne_eq, Int.reduceEq, Int.reduceLT, Int.reduceLE, Int.reduceToNat, Int.reduceMul, Int.reduceAdd, Int.reduceNeg, gk91 hg, gr91_5 hg, gr91_22 hg, gr91_23 hg, gr91_24 hg, gr91_25 hg, gr91_26 hg, gr91_27 hg, gr91_28 hg, gr91_29 hg, gr91_32 hg, gr91_33 hg, gr91_34 hg, gr91_35 hg, gr91_36 hg, gr91_37 hg, gr91_38 hg, gr91_39 hg, gr91_40 hg, gr91_41 hg, gr91_42 hg, gr91_44 hg, gr91_45 hg, gr91_46 hg, gr91_48 hg, gr91_49 hg, gr91_50 hg, gr91_51 hg, gr91_52 hg, h9]
    exact K h mfm.rf (fun _ _ => rfl) c
  · have k5 := hk q rfl
    obtain ⟨T, c13, t⟩ := c
    have nx := nxt_b (tp := tp) q t.1
    apply m_next (d := d) hg T (by rw [t.2.1]; exact soK_5 _) (t.2.2.2.2.2.2.2 k5) nx.2.1
    intro h' f' t'
    apply K h' (fun c i z => f' c i (by unfold tkc; omega)) (fun e z => by cases z)
    exact ⟨MT_fr T (f' _ _ (by unfold tkc; omega)) (fun i => f' _ _ (by unfold tkc; omega)), by rw [f' _ _ (by unfold tkc; omega)]; exact c13, t'⟩
theorem m_wordOf (hid : id < 15) : zRunD ztb zmt' (d + 1) 124 [zT id] G h Q ↔ Q (some (zL (kwc id))) G h := by
  rw [r124]
  have kw := kw_l hid
  have i16 : id < 16 := by omega
  have lp : ∀ j i, i + j = kwl id → (zE 124 d Q 4 [some (zT id), some (zL (wcd (kwf id) 0 i)), none, some (zI i)] [] G h (0, 0) ↔ Q (some (zL (kwc id))) G h) := by
    intro j
    induction j with
    | zero =>
      intro i hi
      have c : ((zstr.getD id []).length : Int) ≤ i := by
        have : kwl id = (zstr.getD id []).length := rfl
        omega
      have e : i = kwl id := by omega
      rw [e124_4]
      simp only [e124_5, e124_6, e124_9, e124_12, e124_15, e124_16, e124_17, e124_18, e124_19, e124_22, e124_24, e124_25, e124_26, e124_27, e124_28, e124_29, e124_30, e124_33, e124_36, e124_37, zs0, zsI, zsL, zsR, ztl1, ztl0, zc0, zcI, zcL, zcR, true_and, and_true, true_implies, false_implies, implies_true, not_true_eq_false, not_false_eq_true, and_self, Int.toNat_natCast, Nat.reduceAdd, Nat.reduceLeDiff, Nat.reduceLT, forall_eq', Option.some.injEq, zarR, zarI, zarL, zle, zq0, zq1, zq2, zq3, zq4, zq5, zq6, zq8, zq9, zq10, zq20, zq7, zq12, zq24, zq40, zq41, zq48, zq100, zq120, zq123, zq480, zq492, zq700, zq729, zq2187, zq2916, zq8748, ne_eq, Int.reduceEq, Int.reduceLT, Int.reduceLE, Int.reduceToNat, Int.reduceMul, Int.reduceAdd, Int.reduceNeg, i16, c]
      rw [e]
      rfl
    | succ j ih =>
      intro i hi
      have el : kwl id = (zstr.getD id []).length := rfl
      have c : ¬ ((zstr.getD id []).length : Int) ≤ i := by omega
      have c' : (i : Int) < ((zstr.getD id []).length : Int) := by omega
      have wb := wcd_b (tp := kwf id) (p := 0) (l := i) (fun i' hi' => kw.2 i' (by omega))
      have w32 : wcd (kwf id) 0 i + 1 ≤ 32 ^ 7 := by
        have : (32 : Int) ^ i ≤ 32 ^ 7 := by
          have := Nat.pow_le_pow_right (show 0 < 32 by decide) (show i ≤ 7 by omega)
          exact_mod_cast this
        omega
      have w7 : wcd (kwf id) 0 i ≤ 34359738368 := by
        have : (32 : Int) ^ 7 = 34359738368 := by decide
        omega
      have kb := kw.2 i (by omega)
      have ek : kwf id (0 + i) = (zstr.getD id []).getD i 0 := by rw [Nat.zero_add]; rfl
      rw [ek] at kb
      have x1 : wl (32 * wcd (kwf id) 0 i) = 32 * wcd (kwf id) 0 i := wl_id (by omega)
      have x2 : wr (wr ((zstr.getD id []).getD i 0 - 97) + 1) = (zstr.getD id []).getD i 0 - 96 := by rw [wr_id (z := (zstr.getD id []).getD i 0 - 97) (by omega), wr_id (by omega)]; omega
      have x3 : wl (32 * wcd (kwf id) 0 i + ((zstr.getD id []).getD i 0 - 96)) = wcd (kwf id) 0 (i + 1) := by
        rw [wl_id (by omega), ← ek]
        rfl
      rw [e124_4]
      simp only [e124_5, e124_6, e124_9, e124_12, e124_15, e124_16, e124_17, e124_18, e124_19, e124_22, e124_24, e124_25, e124_26, e124_27, e124_28, e124_29, e124_30, e124_33, zs0, zsI, zsL, zsR, ztl1, ztl0, zc0, zcI, zcL, zcR, true_and, and_true, true_implies, false_implies, implies_true, not_true_eq_false, not_false_eq_true, and_self, Int.toNat_natCast, Nat.reduceAdd, Nat.reduceLeDiff, Nat.reduceLT, forall_eq', Option.some.injEq, zarR, zarI, zarL, zle, zq0, zq1, zq2, zq3, zq4, zq5, zq6, zq8, zq9, zq10, zq20, zq7, zq12, zq24, zq40, zq41, zq48, zq100, zq120, zq123, zq480, zq492, zq700, zq729, zq2187, zq2916, zq8748, ne_eq, Int.reduceEq, Int.reduceLT, Int.reduceLE, Int.reduceToNat, Int.reduceMul, Int.reduceAdd, Int.reduceNeg, i16, c, c', x1, x2, x3, wr_s (show i < 2147483647 by omega)]
      exact ih (i + 1) (by omega)
  have l0 := lp (kwl id) 0 (by omega)
  rw [zq0] at l0
  simp only [e124_0, e124_1, e124_2, e124_3, zs0, zsI, zsL, zsR, ztl1, ztl0, zc0, zcI, zcL, zcR, true_and, and_true, true_implies, false_implies, implies_true, not_true_eq_false, not_false_eq_true, and_self, Int.toNat_natCast, Nat.reduceAdd, Nat.reduceLeDiff, Nat.reduceLT, forall_eq', Option.some.injEq, zarR, zarI, zarL, zle, zq0, zq1, zq2, zq3, zq4, zq5, zq6, zq8, zq9, zq10, zq20, zq7, zq12, zq24, zq40, zq41, zq48, zq100, zq120, zq123, zq480, zq492, zq700, zq729, zq2187, zq2916, zq8748, ne_eq, Int.reduceEq, Int.reduceLT, Int.reduceLE, Int.reduceToNat, Int.reduceMul, Int.reduceAdd, Int.reduceNeg]
  exact l0
theorem m_isWord (hg : gS G) (hid : id < 15) (c : MS tp n s h) (K : ∀ v : Int, (∀ q, s = .inr q → v = 1 ∧ isW tp n id q ∨ v = 0 ∧ ¬ isW tp n id q) → (∀ e, s = .inl e → v = 0) → Q (some (zI v)) G h) : zRunD ztb zmt' (d + 2) 128 [zR (some 91), zT id] G h Q := by
  rw [r128]
  have wo := fun Q' => m_wordOf (d := d) (Q := Q') (G := G) (h := h) hid
  rcases s with e | q
  · have h9 := c.2.1
    have kk := K 0 (fun q z => by cases z) (fun _ _ => rfl)
    simp only [e128_0, e128_1, e128_4, e128_5, e128_8, e128_9, e128_12, e128_13, e128_16, e128_17, e128_20, e128_21, e128_24, e128_25, zs0, zsI, zsL, zsR, ztl1, ztl0, zc0, zcI, zcL, zcR, true_and, and_true, true_implies, false_implies, implies_true, not_true_eq_false, not_false_eq_true, and_self, Int.toNat_natCast, Nat.reduceAdd, Nat.reduceLeDiff, Nat.reduceLT, forall_eq', Option.some.injEq, zarR, zarI, zarL, zle, zq0, zq1, zq2, zq3, zq4, zq5, zq6, zq8, zq9, zq10, zq20, zq7, zq12, zq24, zq40, zq41, zq48, zq100, zq120, zq123, zq480, zq492, zq700, zq729, zq2187, zq2916, zq8748, ne_eq, Int.reduceEq, Int.reduceLT, Int.reduceLE, Int.reduceToNat, Int.reduceMul, Int.reduceAdd, Int.reduceNeg, gk91 hg, gr91_5 hg, gr91_22 hg, gr91_23 hg, gr91_24 hg, gr91_25 hg, gr91_26 hg, gr91_27 hg, gr91_28 hg, gr91_29 hg, gr91_32 hg, gr91_33 hg, gr91_34 hg, gr91_35 hg, gr91_36 hg, gr91_37 hg, gr91_38 hg, gr91_39 hg, gr91_40 hg, gr91_41 hg, gr91_42 hg, gr91_44 hg, gr91_45 hg, gr91_46 hg, gr91_48 hg, gr91_49 hg, gr91_50 hg, gr91_51 hg, gr91_52 hg, or_true, true_or, if_true, if_false, false_and, and_false, false_or, or_false, h9]
    exact kk
  · have t := c.2.2
    by_cases k1 : kd tp n q = 1
    · have h9 : h 91 9 = 2 := by rw [t.2.1, k1]; rfl
      have h15 := t.2.2.2.1 k1
      by_cases w : wd tp n q = kwc id
      · have kk := K 1 (fun q' z => by cases z; exact Or.inl ⟨rfl, k1, w⟩) (fun e z => by cases z)
        simp only [e128_0, e128_1, e128_4, e128_5, e128_8, e128_9, e128_12, e128_13, e128_16, e128_17, e128_20, e128_21, e128_24, e128_25, zs0, zsI, zsL, zsR, ztl1, ztl0, zc0, zcI, zcL, zcR, true_and, and_true, true_implies, false_implies, implies_true, not_true_eq_false, not_false_eq_true, and_self, Int.toNat_natCast, Nat.reduceAdd, Nat.reduceLeDiff, Nat.reduceLT, forall_eq', Option.some.injEq, zarR, zarI, zarL, zle, zq0, zq1, zq2, zq3, zq4, zq5, zq6, zq8, zq9, zq10, zq20, zq7, zq12, zq24, zq40, zq41, zq48, zq100, zq120, zq123, zq480, zq492, zq700, zq729, zq2187, zq2916, zq8748, ne_eq, Int.reduceEq, Int.reduceLT, Int.reduceLE, Int.reduceToNat, Int.reduceMul, Int.reduceAdd, Int.reduceNeg, gk91 hg, gr91_5 hg, gr91_22 hg, gr91_23 hg, gr91_24 hg, gr91_25 hg, gr91_26 hg, gr91_27 hg, gr91_28 hg, gr91_29 hg, gr91_32 hg, gr91_33 hg, gr91_34 hg, gr91_35 hg, gr91_36 hg, gr91_37 hg, gr91_38 hg, gr91_39 hg, gr91_40 hg, gr91_41 hg, gr91_42 hg, gr91_44 hg, gr91_45 hg, gr91_46 hg, gr91_48 hg, gr91_49 hg, gr91_50 hg, gr91_51 hg, gr91_52 hg, or_true, true_or, if_true, if_false, false_and, and_false, false_or, or_false, h9, h15, wo, zlc_eq, w]
        exact kk
      · have kk := K 0 (fun q' z => by cases z; exact Or.inr ⟨rfl, fun y => w y.2⟩) (fun e z => by cases z)
        simp only [e128_0, e128_1, e128_4, e128_5, e128_8, e128_9, e128_12, e128_13, e128_16, e128_17, e128_20, e128_21, e128_24, e128_25, zs0, zsI, zsL, zsR, ztl1, ztl0, zc0, zcI, zcL, zcR, true_and, and_true, true_implies, false_implies, implies_true, not_true_eq_false, not_false_eq_true, and_self, Int.toNat_natCast, Nat.reduceAdd, Nat.reduceLeDiff, Nat.reduceLT, forall_eq', Option.some.injEq, zarR, zarI, zarL, zle, zq0, zq1, zq2, zq3, zq4, zq5, zq6, zq8, zq9, zq10, zq20, zq7, zq12, zq24, zq40, zq41, zq48, zq100, zq120, zq123, zq480, zq492, zq700, zq729, zq2187, zq2916, zq8748, ne_eq, Int.reduceEq, Int.reduceLT, Int.reduceLE, Int.reduceToNat, Int.reduceMul, Int.reduceAdd, Int.reduceNeg, gk91 hg, gr91_5 hg, gr91_22 hg, gr91_23 hg, gr91_24 hg, gr91_25 hg, gr91_26 hg, gr91_27 hg, gr91_28 hg, gr91_29 hg, gr91_32 hg, gr91_33 hg, gr91_34 hg, gr91_35 hg, gr91_36 hg, gr91_37 hg, gr91_38 hg, gr91_39 hg, gr91_40 hg, gr91_41 hg, gr91_42 hg, gr91_44 hg, gr91_45 hg, gr91_46 hg, gr91_48 hg, gr91_49 hg, gr91_50 hg, gr91_51 hg, gr91_52 hg, or_true, true_or, if_true, if_false, false_and, and_false, false_or, or_false, h9, h15, wo, zlc_eq, w]
        exact kk
    · have h9 : ¬ h 91 9 = 2 := by
        rw [t.2.1]
        exact so_2 k1
      have kk := K 0 (fun q' z => by cases z; exact Or.inr ⟨rfl, fun y => k1 y.1⟩) (fun e z => by cases z)
      simp only [e128_0, e128_1, e128_4, e128_5, e128_8, e128_9, e128_12, e128_13, e128_16, e128_17, e128_20, e128_21, e128_24, e128_25, zs0, zsI, zsL, zsR, ztl1, ztl0, zc0, zcI, zcL, zcR, true_and, and_true, true_implies, false_implies, implies_true, not_true_eq_false, not_false_eq_true, and_self, Int.toNat_natCast, Nat.reduceAdd, Nat.reduceLeDiff, Nat.reduceLT, forall_eq', Option.some.injEq, zarR, zarI, zarL, zle, zq0, zq1, zq2, zq3, zq4, zq5, zq6, zq8, zq9, zq10, zq20, zq7, zq12, zq24, zq40, zq41, zq48, zq100, zq120, zq123, zq480, zq492, zq700, zq729, zq2187, zq2916, zq8748, ne_eq, Int.reduceEq, Int.reduceLT, Int.reduceLE, Int.reduceToNat, Int.reduceMul, Int.reduceAdd, Int.reduceNeg, gk91 hg, gr91_5 hg, gr91_22 hg, gr91_23 hg, gr91_24 hg, gr91_25 hg, gr91_26 hg, gr91_27 hg, gr91_28 hg, gr91_29 hg, gr91_32 hg, gr91_33 hg, gr91_34 hg, gr91_35 hg, gr91_36 hg, gr91_37 hg, gr91_38 hg, gr91_39 hg, gr91_40 hg, gr91_41 hg, gr91_42 hg, gr91_44 hg, gr91_45 hg, gr91_46 hg, gr91_48 hg, gr91_49 hg, gr91_50 hg, gr91_51 hg, gr91_52 hg, or_true, true_or, if_true, if_false, false_and, and_false, false_or, or_false, h9]
      exact kk
/-- a reader with a number that counts where it lives -/
def MV (tp : Nat → Int) (n : Nat) (r : pE ⊕ (Nat × Int)) (h : zM) (v : Int) : Prop := match r with
  | .inl e => MS tp n (.inl e) h
  | .inr p => MS tp n (.inr p.1) h ∧ v = p.2
theorem m_readWhole (hg : gS G) {lo hi : Int} (c : MS tp n s h) (K : ∀ (v : Int) (h' : zM), mfm h h' → MV tp n (sV s (pN tp n lo hi)) h' v → Q (some (zI v)) G h') : zRunD ztb zmt' (d + 3) 130 [zR (some 91), zI lo, zI hi] G h Q := by
  rw [r130]
  rcases s with e | q
  · have h9 := c.2.1
    have w := fun a Q' => m_wrong' (d := d) (Q := Q') (h := h) (a := a) hg h9
    simp only [e130_0, e130_1, e130_4, e130_5, e130_8, e130_9, e130_10, e130_13, e130_16, e130_17, e130_20, e130_21, e130_22, e130_25, e130_28, e130_29, e130_30, e130_33, e130_34, e130_37, e130_38, e130_39, zs0, zsI, zsL, zsR, ztl1, ztl0, zc0, zcI, zcL, zcR, true_and, and_true, true_implies, false_implies, implies_true, not_true_eq_false, not_false_eq_true, and_self, Int.toNat_natCast, Nat.reduceAdd, Nat.reduceLeDiff, Nat.reduceLT, forall_eq', Option.some.injEq, zarR, zarI, zarL, zle, zq0, zq1, zq2, zq3, zq4, zq5, zq6, zq8, zq9, zq10, zq20, zq7, zq12, zq24, zq40, zq41, zq48, zq100, zq120, zq123, zq480, zq492, zq700, zq729, zq2187, zq2916, zq8748, ne_eq, Int.reduceEq, Int.reduceLT, Int.reduceLE, Int.reduceToNat, Int.reduceMul, Int.reduceAdd, Int.reduceNeg, gk91 hg, gr91_5 hg, gr91_22 hg, gr91_23 hg, gr91_24 hg, gr91_25 hg, gr91_26 hg, gr91_27 hg, gr91_28 hg, gr91_29 hg, gr91_32 hg, gr91_33 hg, gr91_34 hg, gr91_35 hg, gr91_36 hg, gr91_37 hg, gr91_38 hg, gr91_39 hg, gr91_40 hg, gr91_41 hg, gr91_42 hg, gr91_44 hg, gr91_45 hg, gr91_46 hg, gr91_48 hg, gr91_49 hg, gr91_50 hg, gr91_51 hg, gr91_52 hg, h9, w]
    apply m_go (d := d) hg c (fun q z => by cases z)
    intro h' f' e' s'
    have := e' e rfl
    subst this
    simp only [e130_42, e130_43, zs0, zsI, zsL, zsR, ztl1, ztl0, zc0, zcI, zcL, zcR, true_and, and_true, true_implies, false_implies, implies_true, not_true_eq_false, not_false_eq_true, and_self, Int.toNat_natCast, Nat.reduceAdd, Nat.reduceLeDiff, Nat.reduceLT, forall_eq', Option.some.injEq, zarR, zarI, zarL, zle, zq0, zq1, zq2, zq3, zq4, zq5, zq6, zq8, zq9, zq10, zq20, zq7, zq12, zq24, zq40, zq41, zq48, zq100, zq120, zq123, zq480, zq492, zq700, zq729, zq2187, zq2916, zq8748, ne_eq, Int.reduceEq, Int.reduceLT, Int.reduceLE, Int.reduceToNat, Int.reduceMul, Int.reduceAdd, Int.reduceNeg]
    exact K _ _ mfm.rf c
  · have t := c.2.2
    have n9 := MS_9 c
    have w := fun a Q' => m_wrong (d := d) (Q := Q') (h := h) (a := a) hg n9
    unfold sV pN at K
    dsimp only at K
    have dead : ∀ a : Int, 0 < a → ∀ v : Int, (∀ (h' : zM), mfm h h' → MS tp n (.inl (a, (st tp n q : Nat))) h' → Q (some (zI v)) G h') → zE 130 (d + 2) Q 38 [some (zR (some 91)), some (zI lo), some (zI hi), some (zI v)] [] G (zu (zu (zu h 91 13 a) 91 14 (h 91 10)) 91 9 5) (0, 0) := by
      intro a ha v KK
      have c2 := MS_die c (b := h 91 10) ha
      rw [t.2.2.1] at c2 ⊢
      simp only [e130_38, e130_39, zs0, zsI, zsL, zsR, ztl1, ztl0, zc0, zcI, zcL, zcR, true_and, and_true, true_implies, false_implies, implies_true, not_true_eq_false, not_false_eq_true, and_self, Int.toNat_natCast, Nat.reduceAdd, Nat.reduceLeDiff, Nat.reduceLT, forall_eq', Option.some.injEq, zarR, zarI, zarL, zle, zq0, zq1, zq2, zq3, zq4, zq5, zq6, zq8, zq9, zq10, zq20, zq7, zq12, zq24, zq40, zq41, zq48, zq100, zq120, zq123, zq480, zq492, zq700, zq729, zq2187, zq2916, zq8748, ne_eq, Int.reduceEq, Int.reduceLT, Int.reduceLE, Int.reduceToNat, Int.reduceMul, Int.reduceAdd, Int.reduceNeg, gk91 hg, gr91_5 hg, gr91_22 hg, gr91_23 hg, gr91_24 hg, gr91_25 hg, gr91_26 hg, gr91_27 hg, gr91_28 hg, gr91_29 hg, gr91_32 hg, gr91_33 hg, gr91_34 hg, gr91_35 hg, gr91_36 hg, gr91_37 hg, gr91_38 hg, gr91_39 hg, gr91_40 hg, gr91_41 hg, gr91_42 hg, gr91_44 hg, gr91_45 hg, gr91_46 hg, gr91_48 hg, gr91_49 hg, gr91_50 hg, gr91_51 hg, gr91_52 hg]
      apply m_go (d := d) hg c2 (fun q z => by cases z)
      intro h' f' e' s'
      have := e' _ rfl
      subst this
      simp only [e130_42, e130_43, zs0, zsI, zsL, zsR, ztl1, ztl0, zc0, zcI, zcL, zcR, true_and, and_true, true_implies, false_implies, implies_true, not_true_eq_false, not_false_eq_true, and_self, Int.toNat_natCast, Nat.reduceAdd, Nat.reduceLeDiff, Nat.reduceLT, forall_eq', Option.some.injEq, zarR, zarI, zarL, zle, zq0, zq1, zq2, zq3, zq4, zq5, zq6, zq8, zq9, zq10, zq20, zq7, zq12, zq24, zq40, zq41, zq48, zq100, zq120, zq123, zq480, zq492, zq700, zq729, zq2187, zq2916, zq8748, ne_eq, Int.reduceEq, Int.reduceLT, Int.reduceLE, Int.reduceToNat, Int.reduceMul, Int.reduceAdd, Int.reduceNeg]
      exact KK _ mfm_die c2
    by_cases k2 : kd tp n q = 2
    · rw [if_neg (by omega)] at K
      have h9 : h 91 9 = 3 := by rw [t.2.1, k2]; rfl
      have h12 := t.2.2.2.2.1 k2
      have mi := fun Q' => m_in (d := d + 1) (Q := Q') (G := G) (h := h) (x := nb tp n q) (y := lo) (z := hi)
      rcases rng_c lo (hi + 1) (nb tp n q) with ⟨e, e1, e2⟩ | ⟨e, e2⟩
      · rw [if_neg (by omega)] at K
        simp only [e130_0, e130_1, e130_4, e130_5, e130_8, e130_9, e130_10, e130_13, e130_16, e130_17, e130_20, e130_21, e130_22, e130_25, e130_28, e130_29, e130_30, e130_33, e130_34, e130_37, zs0, zsI, zsL, zsR, ztl1, ztl0, zc0, zcI, zcL, zcR, true_and, and_true, true_implies, false_implies, implies_true, not_true_eq_false, not_false_eq_true, and_self, Int.toNat_natCast, Nat.reduceAdd, Nat.reduceLeDiff, Nat.reduceLT, forall_eq', Option.some.injEq, zarR, zarI, zarL, zle, zq0, zq1, zq2, zq3, zq4, zq5, zq6, zq8, zq9, zq10, zq20, zq7, zq12, zq24, zq40, zq41, zq48, zq100, zq120, zq123, zq480, zq492, zq700, zq729, zq2187, zq2916, zq8748, ne_eq, Int.reduceEq, Int.reduceLT, Int.reduceLE, Int.reduceToNat, Int.reduceMul, Int.reduceAdd, Int.reduceNeg, gk91 hg, gr91_5 hg, gr91_22 hg, gr91_23 hg, gr91_24 hg, gr91_25 hg, gr91_26 hg, gr91_27 hg, gr91_28 hg, gr91_29 hg, gr91_32 hg, gr91_33 hg, gr91_34 hg, gr91_35 hg, gr91_36 hg, gr91_37 hg, gr91_38 hg, gr91_39 hg, gr91_40 hg, gr91_41 hg, gr91_42 hg, gr91_44 hg, gr91_45 hg, gr91_46 hg, gr91_48 hg, gr91_49 hg, gr91_50 hg, gr91_51 hg, gr91_52 hg, h9, h12, mi, e]
        simp only [e130_38, e130_39, zs0, zsI, zsL, zsR, ztl1, ztl0, zc0, zcI, zcL, zcR, true_and, and_true, true_implies, false_implies, implies_true, not_true_eq_false, not_false_eq_true, and_self, Int.toNat_natCast, Nat.reduceAdd, Nat.reduceLeDiff, Nat.reduceLT, forall_eq', Option.some.injEq, zarR, zarI, zarL, zle, zq0, zq1, zq2, zq3, zq4, zq5, zq6, zq8, zq9, zq10, zq20, zq7, zq12, zq24, zq40, zq41, zq48, zq100, zq120, zq123, zq480, zq492, zq700, zq729, zq2187, zq2916, zq8748, ne_eq, Int.reduceEq, Int.reduceLT, Int.reduceLE, Int.reduceToNat, Int.reduceMul, Int.reduceAdd, Int.reduceNeg, gk91 hg, gr91_5 hg, gr91_22 hg, gr91_23 hg, gr91_24 hg, gr91_25 hg, gr91_26 hg, gr91_27 hg, gr91_28 hg, gr91_29 hg, gr91_32 hg, gr91_33 hg, gr91_34 hg, gr91_35 hg, gr91_36 hg, gr91_37 hg, gr91_38 hg, gr91_39 hg, gr91_40 hg, gr91_41 hg, gr91_42 hg, gr91_44 hg, gr91_45 hg, gr91_46 hg, gr91_48 hg, gr91_49 hg, gr91_50 hg, gr91_51 hg, gr91_52 hg]
        apply m_go (d := d) hg c (fun q' z => by cases z; omega)
        intro h' f' e' s'
        simp only [e130_42, e130_43, zs0, zsI, zsL, zsR, ztl1, ztl0, zc0, zcI, zcL, zcR, true_and, and_true, true_implies, false_implies, implies_true, not_true_eq_false, not_false_eq_true, and_self, Int.toNat_natCast, Nat.reduceAdd, Nat.reduceLeDiff, Nat.reduceLT, forall_eq', Option.some.injEq, zarR, zarI, zarL, zle, zq0, zq1, zq2, zq3, zq4, zq5, zq6, zq8, zq9, zq10, zq20, zq7, zq12, zq24, zq40, zq41, zq48, zq100, zq120, zq123, zq480, zq492, zq700, zq729, zq2187, zq2916, zq8748, ne_eq, Int.reduceEq, Int.reduceLT, Int.reduceLE, Int.reduceToNat, Int.reduceMul, Int.reduceAdd, Int.reduceNeg]
        exact K _ _ f' ⟨s', rfl⟩
      · rw [if_pos (by omega)] at K
        simp only [e130_0, e130_1, e130_4, e130_5, e130_8, e130_9, e130_10, e130_13, e130_16, e130_17, e130_20, e130_21, e130_22, e130_25, e130_28, e130_29, e130_30, e130_33, e130_34, e130_37, zs0, zsI, zsL, zsR, ztl1, ztl0, zc0, zcI, zcL, zcR, true_and, and_true, true_implies, false_implies, implies_true, not_true_eq_false, not_false_eq_true, and_self, Int.toNat_natCast, Nat.reduceAdd, Nat.reduceLeDiff, Nat.reduceLT, forall_eq', Option.some.injEq, zarR, zarI, zarL, zle, zq0, zq1, zq2, zq3, zq4, zq5, zq6, zq8, zq9, zq10, zq20, zq7, zq12, zq24, zq40, zq41, zq48, zq100, zq120, zq123, zq480, zq492, zq700, zq729, zq2187, zq2916, zq8748, ne_eq, Int.reduceEq, Int.reduceLT, Int.reduceLE, Int.reduceToNat, Int.reduceMul, Int.reduceAdd, Int.reduceNeg, gk91 hg, gr91_5 hg, gr91_22 hg, gr91_23 hg, gr91_24 hg, gr91_25 hg, gr91_26 hg, gr91_27 hg, gr91_28 hg, gr91_29 hg, gr91_32 hg, gr91_33 hg, gr91_34 hg, gr91_35 hg, gr91_36 hg, gr91_37 hg, gr91_38 hg, gr91_39 hg, gr91_40 hg, gr91_41 hg, gr91_42 hg, gr91_44 hg, gr91_45 hg, gr91_46 hg, gr91_48 hg, gr91_49 hg, gr91_50 hg, gr91_51 hg, gr91_52 hg, h9, h12, mi, e, w, zu_i (show ¬ 12 = 9 by decide), zu_i (show ¬ 12 = 13 by decide), zu_i (show ¬ 12 = 14 by decide)]
        exact dead 4 (by decide) _ (fun h' f' s' => K _ h' f' s')
    · rw [if_pos k2] at K
      have h9 : ¬ h 91 9 = 3 := by rw [t.2.1]; exact so_3 k2
      simp only [e130_0, e130_1, e130_4, e130_5, e130_8, e130_9, e130_10, e130_13, e130_16, e130_17, e130_20, e130_21, e130_22, e130_25, e130_28, e130_29, e130_30, e130_33, e130_34, e130_37, zs0, zsI, zsL, zsR, ztl1, ztl0, zc0, zcI, zcL, zcR, true_and, and_true, true_implies, false_implies, implies_true, not_true_eq_false, not_false_eq_true, and_self, Int.toNat_natCast, Nat.reduceAdd, Nat.reduceLeDiff, Nat.reduceLT, forall_eq', Option.some.injEq, zarR, zarI, zarL, zle, zq0, zq1, zq2, zq3, zq4, zq5, zq6, zq8, zq9, zq10, zq20, zq7, zq12, zq24, zq40, zq41, zq48, zq100, zq120, zq123, zq480, zq492, zq700, zq729, zq2187, zq2916, zq8748, ne_eq, Int.reduceEq, Int.reduceLT, Int.reduceLE, Int.reduceToNat, Int.reduceMul, Int.reduceAdd, Int.reduceNeg, gk91 hg, gr91_5 hg, gr91_22 hg, gr91_23 hg, gr91_24 hg, gr91_25 hg, gr91_26 hg, gr91_27 hg, gr91_28 hg, gr91_29 hg, gr91_32 hg, gr91_33 hg, gr91_34 hg, gr91_35 hg, gr91_36 hg, gr91_37 hg, gr91_38 hg, gr91_39 hg, gr91_40 hg, gr91_41 hg, gr91_42 hg, gr91_44 hg, gr91_45 hg, gr91_46 hg, gr91_48 hg, gr91_49 hg, gr91_50 hg, gr91_51 hg, gr91_52 hg, h9, w]
      exact dead 1 (by decide) _ (fun h' f' s' => K _ h' f' s')
theorem m_readPart (hg : gS G) (hid : id < 15) {most : Int} (c : MS tp n s h) (K : ∀ (v : Int) (h' : zM), mfm h h' → MV tp n (sV s (pWh tp n id most)) h' v → Q (some (zI v)) G h') : zRunD ztb zmt' (d + 4) 131 [zR (some 91), zT id, zI most] G h Q := by
  rw [r131]
  simp only [e131_0, e131_1, e131_2, zs0, zsI, zsL, zsR, ztl1, ztl0, zc0, zcI, zcL, zcR, true_and, and_true, true_implies, false_implies, implies_true, not_true_eq_false, not_false_eq_true, and_self, Int.toNat_natCast, Nat.reduceAdd, Nat.reduceLeDiff, Nat.reduceLT, forall_eq', Option.some.injEq, zarR, zarI, zarL, zle, zq0, zq1, zq2, zq3, zq4, zq5, zq6, zq8, zq9, zq10, zq20, zq7, zq12, zq24, zq40, zq41, zq48, zq100, zq120, zq123, zq480, zq492, zq700, zq729, zq2187, zq2916, zq8748, ne_eq, Int.reduceEq, Int.reduceLT, Int.reduceLE, Int.reduceToNat, Int.reduceMul, Int.reduceAdd, Int.reduceNeg, gk91 hg, gr91_5 hg, gr91_22 hg, gr91_23 hg, gr91_24 hg, gr91_25 hg, gr91_26 hg, gr91_27 hg, gr91_28 hg, gr91_29 hg, gr91_32 hg, gr91_33 hg, gr91_34 hg, gr91_35 hg, gr91_36 hg, gr91_37 hg, gr91_38 hg, gr91_39 hg, gr91_40 hg, gr91_41 hg, gr91_42 hg, gr91_44 hg, gr91_45 hg, gr91_46 hg, gr91_48 hg, gr91_49 hg, gr91_50 hg, gr91_51 hg, gr91_52 hg]
  apply m_isWord (d := d + 1) hg hid c
  intro v vl vd
  have tail : ∀ (s' : pE ⊕ Nat) (h1 : zM), mfm h h1 → MS tp n s' h1 → (∀ q, s' = .inr q → ¬ kd tp n q = 5) → (∀ (v : Int) (h' : zM), mfm h h' → MV tp n (sV (sP s' (fun q => .inr (nxt tp n q))) (pN tp n 0 most)) h' v → Q (some (zI v)) G h') → zE 131 (d + 3) Q 13 [some (zR (some 91)), some (zT id), some (zI most)] [] G h1 (0, 0) := by
    intro s' h1 f1 c1 hk KK
    simp only [e131_13, e131_14, zs0, zsI, zsL, zsR, ztl1, ztl0, zc0, zcI, zcL, zcR, true_and, and_true, true_implies, false_implies, implies_true, not_true_eq_false, not_false_eq_true, and_self, Int.toNat_natCast, Nat.reduceAdd, Nat.reduceLeDiff, Nat.reduceLT, forall_eq', Option.some.injEq, zarR, zarI, zarL, zle, zq0, zq1, zq2, zq3, zq4, zq5, zq6, zq8, zq9, zq10, zq20, zq7, zq12, zq24, zq40, zq41, zq48, zq100, zq120, zq123, zq480, zq492, zq700, zq729, zq2187, zq2916, zq8748, ne_eq, Int.reduceEq, Int.reduceLT, Int.reduceLE, Int.reduceToNat, Int.reduceMul, Int.reduceAdd, Int.reduceNeg, gk91 hg, gr91_5 hg, gr91_22 hg, gr91_23 hg, gr91_24 hg, gr91_25 hg, gr91_26 hg, gr91_27 hg, gr91_28 hg, gr91_29 hg, gr91_32 hg, gr91_33 hg, gr91_34 hg, gr91_35 hg, gr91_36 hg, gr91_37 hg, gr91_38 hg, gr91_39 hg, gr91_40 hg, gr91_41 hg, gr91_42 hg, gr91_44 hg, gr91_45 hg, gr91_46 hg, gr91_48 hg, gr91_49 hg, gr91_50 hg, gr91_51 hg, gr91_52 hg]
    apply m_go (d := d + 1) hg c1 hk
    intro h2 f2 _ c2
    simp only [e131_17, e131_18, e131_19, e131_20, zs0, zsI, zsL, zsR, ztl1, ztl0, zc0, zcI, zcL, zcR, true_and, and_true, true_implies, false_implies, implies_true, not_true_eq_false, not_false_eq_true, and_self, Int.toNat_natCast, Nat.reduceAdd, Nat.reduceLeDiff, Nat.reduceLT, forall_eq', Option.some.injEq, zarR, zarI, zarL, zle, zq0, zq1, zq2, zq3, zq4, zq5, zq6, zq8, zq9, zq10, zq20, zq7, zq12, zq24, zq40, zq41, zq48, zq100, zq120, zq123, zq480, zq492, zq700, zq729, zq2187, zq2916, zq8748, ne_eq, Int.reduceEq, Int.reduceLT, Int.reduceLE, Int.reduceToNat, Int.reduceMul, Int.reduceAdd, Int.reduceNeg, gk91 hg, gr91_5 hg, gr91_22 hg, gr91_23 hg, gr91_24 hg, gr91_25 hg, gr91_26 hg, gr91_27 hg, gr91_28 hg, gr91_29 hg, gr91_32 hg, gr91_33 hg, gr91_34 hg, gr91_35 hg, gr91_36 hg, gr91_37 hg, gr91_38 hg, gr91_39 hg, gr91_40 hg, gr91_41 hg, gr91_42 hg, gr91_44 hg, gr91_45 hg, gr91_46 hg, gr91_48 hg, gr91_49 hg, gr91_50 hg, gr91_51 hg, gr91_52 hg]
    apply m_readWhole (d := d) hg c2
    intro v h3 f3 c3
    simp only [e131_23, zs0, zsI, zsL, zsR, ztl1, ztl0, zc0, zcI, zcL, zcR, true_and, and_true, true_implies, false_implies, implies_true, not_true_eq_false, not_false_eq_true, and_self, Int.toNat_natCast, Nat.reduceAdd, Nat.reduceLeDiff, Nat.reduceLT, forall_eq', Option.some.injEq, zarR, zarI, zarL, zle, zq0, zq1, zq2, zq3, zq4, zq5, zq6, zq8, zq9, zq10, zq20, zq7, zq12, zq24, zq40, zq41, zq48, zq100, zq120, zq123, zq480, zq492, zq700, zq729, zq2187, zq2916, zq8748, ne_eq, Int.reduceEq, Int.reduceLT, Int.reduceLE, Int.reduceToNat, Int.reduceMul, Int.reduceAdd, Int.reduceNeg]
    exact KK v h3 (f1.tr (f2.tr f3)) c3
  rcases s with e | q
  · have v0 := vd e rfl
    subst v0
    have w := fun Q' => m_wrong' (d := d + 1) (Q := Q') (h := h) (a := 1) hg c.2.1
    simp only [e131_5, e131_8, e131_9, e131_10, zs0, zsI, zsL, zsR, ztl1, ztl0, zc0, zcI, zcL, zcR, true_and, and_true, true_implies, false_implies, implies_true, not_true_eq_false, not_false_eq_true, and_self, Int.toNat_natCast, Nat.reduceAdd, Nat.reduceLeDiff, Nat.reduceLT, forall_eq', Option.some.injEq, zarR, zarI, zarL, zle, zq0, zq1, zq2, zq3, zq4, zq5, zq6, zq8, zq9, zq10, zq20, zq7, zq12, zq24, zq40, zq41, zq48, zq100, zq120, zq123, zq480, zq492, zq700, zq729, zq2187, zq2916, zq8748, ne_eq, Int.reduceEq, Int.reduceLT, Int.reduceLE, Int.reduceToNat, Int.reduceMul, Int.reduceAdd, Int.reduceNeg, gk91 hg, gr91_5 hg, gr91_22 hg, gr91_23 hg, gr91_24 hg, gr91_25 hg, gr91_26 hg, gr91_27 hg, gr91_28 hg, gr91_29 hg, gr91_32 hg, gr91_33 hg, gr91_34 hg, gr91_35 hg, gr91_36 hg, gr91_37 hg, gr91_38 hg, gr91_39 hg, gr91_40 hg, gr91_41 hg, gr91_42 hg, gr91_44 hg, gr91_45 hg, gr91_46 hg, gr91_48 hg, gr91_49 hg, gr91_50 hg, gr91_51 hg, gr91_52 hg, w]
    exact tail (.inl e) h mfm.rf c (fun q z => by cases z) K
  · unfold sV pWh at K
    dsimp only at K
    rcases vl q rfl with ⟨v1, y⟩ | ⟨v1, y⟩
    · subst v1
      unfold isW at y
      rw [if_pos y] at K
      simp only [e131_5, e131_8, e131_9, e131_10, zs0, zsI, zsL, zsR, ztl1, ztl0, zc0, zcI, zcL, zcR, true_and, and_true, true_implies, false_implies, implies_true, not_true_eq_false, not_false_eq_true, and_self, Int.toNat_natCast, Nat.reduceAdd, Nat.reduceLeDiff, Nat.reduceLT, forall_eq', Option.some.injEq, zarR, zarI, zarL, zle, zq0, zq1, zq2, zq3, zq4, zq5, zq6, zq8, zq9, zq10, zq20, zq7, zq12, zq24, zq40, zq41, zq48, zq100, zq120, zq123, zq480, zq492, zq700, zq729, zq2187, zq2916, zq8748, ne_eq, Int.reduceEq, Int.reduceLT, Int.reduceLE, Int.reduceToNat, Int.reduceMul, Int.reduceAdd, Int.reduceNeg, gk91 hg, gr91_5 hg, gr91_22 hg, gr91_23 hg, gr91_24 hg, gr91_25 hg, gr91_26 hg, gr91_27 hg, gr91_28 hg, gr91_29 hg, gr91_32 hg, gr91_33 hg, gr91_34 hg, gr91_35 hg, gr91_36 hg, gr91_37 hg, gr91_38 hg, gr91_39 hg, gr91_40 hg, gr91_41 hg, gr91_42 hg, gr91_44 hg, gr91_45 hg, gr91_46 hg, gr91_48 hg, gr91_49 hg, gr91_50 hg, gr91_51 hg, gr91_52 hg]
      exact tail (.inr q) h mfm.rf c (fun q' z => by cases z; omega) K
    · subst v1
      unfold isW at y
      rw [if_neg y] at K
      have w := fun Q' => m_wrong (d := d + 1) (Q := Q') (h := h) (a := 1) hg (MS_9 c)
      simp only [e131_5, e131_8, e131_9, e131_10, zs0, zsI, zsL, zsR, ztl1, ztl0, zc0, zcI, zcL, zcR, true_and, and_true, true_implies, false_implies, implies_true, not_true_eq_false, not_false_eq_true, and_self, Int.toNat_natCast, Nat.reduceAdd, Nat.reduceLeDiff, Nat.reduceLT, forall_eq', Option.some.injEq, zarR, zarI, zarL, zle, zq0, zq1, zq2, zq3, zq4, zq5, zq6, zq8, zq9, zq10, zq20, zq7, zq12, zq24, zq40, zq41, zq48, zq100, zq120, zq123, zq480, zq492, zq700, zq729, zq2187, zq2916, zq8748, ne_eq, Int.reduceEq, Int.reduceLT, Int.reduceLE, Int.reduceToNat, Int.reduceMul, Int.reduceAdd, Int.reduceNeg, gk91 hg, gr91_5 hg, gr91_22 hg, gr91_23 hg, gr91_24 hg, gr91_25 hg, gr91_26 hg, gr91_27 hg, gr91_28 hg, gr91_29 hg, gr91_32 hg, gr91_33 hg, gr91_34 hg, gr91_35 hg, gr91_36 hg, gr91_37 hg, gr91_38 hg, gr91_39 hg, gr91_40 hg, gr91_41 hg, gr91_42 hg, gr91_44 hg, gr91_45 hg, gr91_46 hg, gr91_48 hg, gr91_49 hg, gr91_50 hg, gr91_51 hg, gr91_52 hg, w]
      have c2 := MS_die c (a := 1) (b := h 91 10) (by decide)
      rw [c.2.2.2.2.1] at c2 ⊢
      exact tail _ _ mfm_die c2 (fun q z => by cases z) (fun v h' f' s' => K v h' f' s')
/-- a sign, eaten where it stands -/
theorem m_eats (hg : gS G) (c : MS tp n s h) {k : Nat} {m : Int} (hk : k = 3 ∧ m = 59 ∨ k = 4 ∧ m = 44) (K : ∀ (v : Int) (h' : zM), mfm h h' → (∀ q, s = .inr q → v = 1 ∧ kd tp n q = k ∧ MS tp n (.inr (nxt tp n q)) h' ∨ v = 0 ∧ ¬ kd tp n q = k ∧ h' = h) → (∀ e, s = .inl e → v = 0 ∧ h' = h) → Q (some (zI v)) G h') : zRunD ztb zmt' (d + 3) 129 [zR (some 91), zI m] G h Q := by
  rw [r129]
  rcases s with e | q
  · have h9 := c.2.1
    have kk := K 0 h mfm.rf (fun q z => by cases z) (fun _ _ => ⟨rfl, rfl⟩)
    simp only [e129_0, e129_1, e129_4, e129_5, e129_8, e129_9, e129_12, e129_13, e129_16, e129_17, e129_20, e129_21, e129_22, e129_23, e129_26, e129_27, e129_30, e129_31, zs0, zsI, zsL, zsR, ztl1, ztl0, zc0, zcI, zcL, zcR, true_and, and_true, true_implies, false_implies, implies_true, not_true_eq_false, not_false_eq_true, and_self, Int.toNat_natCast, Nat.reduceAdd, Nat.reduceLeDiff, Nat.reduceLT, forall_eq', Option.some.injEq, zarR, zarI, zarL, zle, zq0, zq1, zq2, zq3, zq4, zq5, zq6, zq8, zq9, zq10, zq20, zq7, zq12, zq24, zq40, zq41, zq48, zq100, zq120, zq123, zq480, zq492, zq700, zq729, zq2187, zq2916, zq8748, ne_eq, Int.reduceEq, Int.reduceLT, Int.reduceLE, Int.reduceToNat, Int.reduceMul, Int.reduceAdd, Int.reduceNeg, gk91 hg, gr91_5 hg, gr91_22 hg, gr91_23 hg, gr91_24 hg, gr91_25 hg, gr91_26 hg, gr91_27 hg, gr91_28 hg, gr91_29 hg, gr91_32 hg, gr91_33 hg, gr91_34 hg, gr91_35 hg, gr91_36 hg, gr91_37 hg, gr91_38 hg, gr91_39 hg, gr91_40 hg, gr91_41 hg, gr91_42 hg, gr91_44 hg, gr91_45 hg, gr91_46 hg, gr91_48 hg, gr91_49 hg, gr91_50 hg, gr91_51 hg, gr91_52 hg, or_true, true_or, if_true, if_false, false_and, and_false, false_or, or_false, h9]
    exact kk
  · have t := c.2.2
    by_cases k1 : kd tp n q = k
    · have h9 : h 91 9 = 4 := by
        rw [t.2.1, k1]
        unfold soK
        rw [if_neg (by omega), if_neg (by omega), if_neg (by omega), if_pos (by omega)]
      have h11 : h 91 11 = m := by
        rcases hk with ⟨a, b⟩ | ⟨a, b⟩
        · rw [b]; exact t.2.2.2.2.2.1 (by omega)
        · rw [b]; exact t.2.2.2.2.2.2.1 (by omega)
      simp only [e129_0, e129_1, e129_4, e129_5, e129_8, e129_9, e129_12, e129_13, e129_16, e129_17, e129_20, e129_21, e129_22, e129_23, e129_26, e129_27, zs0, zsI, zsL, zsR, ztl1, ztl0, zc0, zcI, zcL, zcR, true_and, and_true, true_implies, false_implies, implies_true, not_true_eq_false, not_false_eq_true, and_self, Int.toNat_natCast, Nat.reduceAdd, Nat.reduceLeDiff, Nat.reduceLT, forall_eq', Option.some.injEq, zarR, zarI, zarL, zle, zq0, zq1, zq2, zq3, zq4, zq5, zq6, zq8, zq9, zq10, zq20, zq7, zq12, zq24, zq40, zq41, zq48, zq100, zq120, zq123, zq480, zq492, zq700, zq729, zq2187, zq2916, zq8748, ne_eq, Int.reduceEq, Int.reduceLT, Int.reduceLE, Int.reduceToNat, Int.reduceMul, Int.reduceAdd, Int.reduceNeg, gk91 hg, gr91_5 hg, gr91_22 hg, gr91_23 hg, gr91_24 hg, gr91_25 hg, gr91_26 hg, gr91_27 hg, gr91_28 hg, gr91_29 hg, gr91_32 hg, gr91_33 hg, gr91_34 hg, gr91_35 hg, gr91_36 hg, gr91_37 hg, gr91_38 hg, gr91_39 hg, gr91_40 hg, gr91_41 hg, gr91_42 hg, gr91_44 hg, gr91_45 hg, gr91_46 hg, gr91_48 hg, gr91_49 hg, gr91_50 hg, gr91_51 hg, gr91_52 hg, h9, h11]
      apply m_go (d := d) hg c (fun q' z => by cases z; omega)
      intro h' f' _ s'
      simp only [e129_30, e129_31, zs0, zsI, zsL, zsR, ztl1, ztl0, zc0, zcI, zcL, zcR, true_and, and_true, true_implies, false_implies, implies_true, not_true_eq_false, not_false_eq_true, and_self, Int.toNat_natCast, Nat.reduceAdd, Nat.reduceLeDiff, Nat.reduceLT, forall_eq', Option.some.injEq, zarR, zarI, zarL, zle, zq0, zq1, zq2, zq3, zq4, zq5, zq6, zq8, zq9, zq10, zq20, zq7, zq12, zq24, zq40, zq41, zq48, zq100, zq120, zq123, zq480, zq492, zq700, zq729, zq2187, zq2916, zq8748, ne_eq, Int.reduceEq, Int.reduceLT, Int.reduceLE, Int.reduceToNat, Int.reduceMul, Int.reduceAdd, Int.reduceNeg, or_true]
      exact K 1 h' f' (fun q' z => by cases z; exact Or.inl ⟨rfl, k1, s'⟩) (fun e z => by cases z)
    · have kk := K 0 h mfm.rf (fun q' z => by cases z; exact Or.inr ⟨rfl, k1, rfl⟩) (fun e z => by cases z)
      by_cases h9 : h 91 9 = 4
      · have h11 : ¬ h 91 11 = m := by
          have k34 : kd tp n q = 3 ∨ kd tp n q = 4 := by
            rw [t.2.1] at h9
            unfold soK at h9
            split at h9
            · cases h9
            · split at h9
              · cases h9
              · split at h9
                · cases h9
                · split at h9
                  · assumption
                  · cases h9
          rcases k34 with z | z
          · rw [t.2.2.2.2.2.1 z]; omega
          · rw [t.2.2.2.2.2.2.1 z]; omega
        simp only [e129_0, e129_1, e129_4, e129_5, e129_8, e129_9, e129_12, e129_13, e129_16, e129_17, e129_20, e129_21, e129_22, e129_23, e129_26, e129_27, e129_30, e129_31, zs0, zsI, zsL, zsR, ztl1, ztl0, zc0, zcI, zcL, zcR, true_and, and_true, true_implies, false_implies, implies_true, not_true_eq_false, not_false_eq_true, and_self, Int.toNat_natCast, Nat.reduceAdd, Nat.reduceLeDiff, Nat.reduceLT, forall_eq', Option.some.injEq, zarR, zarI, zarL, zle, zq0, zq1, zq2, zq3, zq4, zq5, zq6, zq8, zq9, zq10, zq20, zq7, zq12, zq24, zq40, zq41, zq48, zq100, zq120, zq123, zq480, zq492, zq700, zq729, zq2187, zq2916, zq8748, ne_eq, Int.reduceEq, Int.reduceLT, Int.reduceLE, Int.reduceToNat, Int.reduceMul, Int.reduceAdd, Int.reduceNeg, gk91 hg, gr91_5 hg, gr91_22 hg, gr91_23 hg, gr91_24 hg, gr91_25 hg, gr91_26 hg, gr91_27 hg, gr91_28 hg, gr91_29 hg, gr91_32 hg, gr91_33 hg, gr91_34 hg, gr91_35 hg, gr91_36 hg, gr91_37 hg, gr91_38 hg, gr91_39 hg, gr91_40 hg, gr91_41 hg, gr91_42 hg, gr91_44 hg, gr91_45 hg, gr91_46 hg, gr91_48 hg, gr91_49 hg, gr91_50 hg, gr91_51 hg, gr91_52 hg, or_true, true_or, if_true, if_false, false_and, and_false, false_or, or_false, h9, h11]
        exact kk
      · simp only [e129_0, e129_1, e129_4, e129_5, e129_8, e129_9, e129_12, e129_13, e129_16, e129_17, e129_20, e129_21, e129_22, e129_23, e129_26, e129_27, e129_30, e129_31, zs0, zsI, zsL, zsR, ztl1, ztl0, zc0, zcI, zcL, zcR, true_and, and_true, true_implies, false_implies, implies_true, not_true_eq_false, not_false_eq_true, and_self, Int.toNat_natCast, Nat.reduceAdd, Nat.reduceLeDiff, Nat.reduceLT, forall_eq', Option.some.injEq, zarR, zarI, zarL, zle, zq0, zq1, zq2, zq3, zq4, zq5, zq6, zq8, zq9, zq10, zq20, zq7, zq12, zq24, zq40, zq41, zq48, zq100, zq120, zq123, zq480, zq492, zq700, zq729, zq2187, zq2916, zq8748, ne_eq, Int.reduceEq, Int.reduceLT, Int.reduceLE, Int.reduceToNat, Int.reduceMul, Int.reduceAdd, Int.reduceNeg, gk91 hg, gr91_5 hg, gr91_22 hg, gr91_23 hg, gr91_24 hg, gr91_25 hg, gr91_26 hg, gr91_27 hg, gr91_28 hg, gr91_29 hg, gr91_32 hg, gr91_33 hg, gr91_34 hg, gr91_35 hg, gr91_36 hg, gr91_37 hg, gr91_38 hg, gr91_39 hg, gr91_40 hg, gr91_41 hg, gr91_42 hg, gr91_44 hg, gr91_45 hg, gr91_46 hg, gr91_48 hg, gr91_49 hg, gr91_50 hg, gr91_51 hg, gr91_52 hg, or_true, true_or, if_true, if_false, false_and, and_false, false_or, or_false, h9]
        exact kk
end MW
