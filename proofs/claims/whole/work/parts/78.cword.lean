/-! keywords by their number in zstr; the steps of reading, over tokens -/
def kwf (id : Nat) : Nat → Int := fun i => (zstr.getD id []).getD i 0
def kwl (id : Nat) : Nat := (zstr.getD id []).length
def kwc (id : Nat) : Int := wcd (kwf id) 0 (kwl id)
theorem kw_ok : ∀ id : Fin 15, kwl id.val ≤ 8 ∧ ∀ i : Fin 8, i.val < kwl id.val → 97 ≤ kwf id.val i.val ∧ kwf id.val i.val ≤ 122 := by decide +kernel
theorem kw_l {id : Nat} (h : id < 15) : kwl id ≤ 8 ∧ ∀ i, i < kwl id → 97 ≤ kwf id (0 + i) ∧ kwf id (0 + i) ≤ 122 := by
  have q := kw_ok ⟨id, h⟩
  refine ⟨q.1, fun i hi => ?_⟩
  rw [Nat.zero_add]
  exact q.2 ⟨i, by have := q.1; dsimp only at this; omega⟩ hi
def sP (s : (Int × Int) ⊕ Nat) (f : Nat → (Int × Int) ⊕ Nat) : (Int × Int) ⊕ Nat := match s with
  | .inl e => .inl e
  | .inr q => f q
def sV (s : (Int × Int) ⊕ Nat) (f : Nat → (Int × Int) ⊕ (Nat × Int)) : (Int × Int) ⊕ (Nat × Int) := match s with
  | .inl e => .inl e
  | .inr q => f q
section PW
variable (tp : Nat → Int) (n : Nat)
def isW (id q : Nat) : Prop := kd tp n q = 1 ∧ wd tp n q = kwc id
abbrev pE : Type := Int × Int
/-- a whole at q, from lo to hi -/
def pN (lo hi : Int) (q : Nat) : pE ⊕ (Nat × Int) := if ¬ kd tp n q = 2 then .inl (1, (st tp n q : Nat)) else if ¬ (lo ≤ nb tp n q ∧ nb tp n q ≤ hi) then .inl (4, (st tp n q : Nat)) else .inr (nxt tp n q, nb tp n q)
end PW
theorem isW_len {tp : Nat → Int} {n id q : Nat} (hq : q ≤ n) (hid : id < 15) (h : isW tp n id q) : rn tp n q - st tp n q = kwl id ∧ ∀ i, i < kwl id → tp (st tp n q + i) = kwf id i := by
  have k1 := kd_1 hq h.1
  have kw := kw_l hid
  have e := h.2
  unfold wd kwc at e
  have := wcd_inj (fun i hi => k1.2.2.2.2.2 _ (by omega) (by omega)) kw.2 e
  refine ⟨this.1, fun i hi => ?_⟩
  have z := this.2 i (by omega)
  rw [Nat.zero_add] at z
  exact z
section CW
variable {d : Nat} {Q : zQ} {G : zG} {h : zM} {n q id : Nat}
theorem c_isWord (hg : gS G) (ht : G.2.2.2 2 2 = some 1) (hn : n ≤ 700) (hid : id < 15) (T : TKc (h 1) n h q) (K : ∀ v : Int, (v = 1 ∧ isW (h 1) n id q ∨ v = 0 ∧ ¬ isW (h 1) n id q) → Q (some (zI v)) G h) : zRunD ztb zmt' (d + 1) 19 [zR (some 2), zT id] G h Q := by
  rw [r19]
  obtain ⟨hq, t5, t6, t7, -, -⟩ := T
  have i16 : id < 16 := by omega
  by_cases k1 : kd (h 1) n q = 1
  · rw [k1] at t5
    have t7 := t7 k1
    have kk := kd_1 hq k1
    have rb := rn_b (tp := h 1) q hq
    have kw := kw_l hid
    by_cases le : rn (h 1) n q - st (h 1) n q = kwl id
    · have lp : ∀ j i, i + j = kwl id → (∀ i', i' < i → h 1 (st (h 1) n q + i') = kwf id i') → zE 19 d Q 23 [some (zR (some 2)), some (zT id), some (zI i)] [] G h (0, 0) := by
        intro j
        induction j with
        | zero =>
          intro i hi m
          have hi' : i = kwl id := by omega
          have c : ((rn (h 1) n q - st (h 1) n q : Nat) : Int) ≤ i := by omega
          rw [e19_23]
          simp only [e19_0, e19_1, e19_4, e19_5, e19_8, e19_9, e19_12, e19_13, e19_16, e19_19, e19_20, e19_21, e19_22, e19_24, e19_25, e19_28, e19_31, e19_32, e19_35, e19_36, e19_39, e19_40, e19_41, e19_42, e19_43, e19_44, e19_47, e19_50, e19_51, e19_52, e19_55, e19_58, e19_59, zs0, zsI, zsL, zsR, ztl1, ztl0, zc0, zcI, zcL, zcR, true_and, and_true, true_implies, false_implies, implies_true, not_true_eq_false, not_false_eq_true, and_self, Int.toNat_natCast, Nat.reduceAdd, Nat.reduceLeDiff, Nat.reduceLT, forall_eq', Option.some.injEq, zarR, zarI, zarL, zle, zq0, zq1, zq2, zq3, zq4, zq5, zq6, zq8, zq9, zq10, zq20, zq7, zq12, zq24, zq40, zq41, zq48, zq100, zq120, zq123, zq480, zq492, zq700, zq729, zq2187, zq2916, zq8748, ne_eq, Int.reduceEq, Int.reduceLT, Int.reduceLE, Int.reduceToNat, Int.reduceMul, Int.reduceAdd, Int.reduceNeg, gk2 hg, gr2_9 hg, gr2_10 hg, or_true, true_or, if_true, if_false, false_and, and_false, false_or, or_false, t7, c]
          apply K 1
          refine Or.inl ⟨rfl, k1, ?_⟩
          unfold wd kwc
          rw [le]
          exact wcd_cong (fun i hi => by rw [Nat.zero_add]; exact m i (by omega))
        | succ j ih =>
          intro i hi m
          have c : ¬ ((rn (h 1) n q - st (h 1) n q : Nat) : Int) ≤ i := by omega
          have w : True → wr (((st (h 1) n q : Nat) : Int) + (i : Int)) = ((st (h 1) n q + i : Nat) : Int) := fun _ => wrN (by omega) (by omega)
          have s7 : ((st (h 1) n q + i : Nat) : Int) < 700 := by omega
          have il : (i : Int) < ((zstr.getD id []).length : Int) := by
            have : kwl id = (zstr.getD id []).length := rfl
            omega
          rw [e19_23]
          by_cases z : h 1 (st (h 1) n q + i) = kwf id i
          · have z' : h 1 (st (h 1) n q + i) = (zstr.getD id []).getD i 0 := z
            simp only [e19_0, e19_1, e19_4, e19_5, e19_8, e19_9, e19_12, e19_13, e19_16, e19_19, e19_20, e19_21, e19_22, e19_24, e19_25, e19_28, e19_31, e19_32, e19_35, e19_36, e19_39, e19_40, e19_41, e19_42, e19_43, e19_44, e19_47, e19_50, e19_51, e19_52, e19_55, e19_58, e19_59, zs0, zsI, zsL, zsR, ztl1, ztl0, zc0, zcI, zcL, zcR, true_and, and_true, true_implies, false_implies, implies_true, not_true_eq_false, not_false_eq_true, and_self, Int.toNat_natCast, Nat.reduceAdd, Nat.reduceLeDiff, Nat.reduceLT, forall_eq', Option.some.injEq, zarR, zarI, zarL, zle, zq0, zq1, zq2, zq3, zq4, zq5, zq6, zq8, zq9, zq10, zq20, zq7, zq12, zq24, zq40, zq41, zq48, zq100, zq120, zq123, zq480, zq492, zq700, zq729, zq2187, zq2916, zq8748, ne_eq, Int.reduceEq, Int.reduceLT, Int.reduceLE, Int.reduceToNat, Int.reduceMul, Int.reduceAdd, Int.reduceNeg, gk2 hg, gr2_9 hg, gr2_10 hg, gk1 hg, gl1 hg, or_true, true_or, if_true, if_false, false_and, and_false, false_or, or_false, ht, t6, t7, c, w trivial, s7, i16, il, z', wr_s (show i < 2147483647 by omega)]
            apply ih (i + 1) (by omega)
            intro i' hi'
            by_cases z2 : i' = i
            · rw [z2]; exact z
            · exact m i' (by omega)
          · have z' : ¬ h 1 (st (h 1) n q + i) = (zstr.getD id []).getD i 0 := z
            simp only [e19_0, e19_1, e19_4, e19_5, e19_8, e19_9, e19_12, e19_13, e19_16, e19_19, e19_20, e19_21, e19_22, e19_24, e19_25, e19_28, e19_31, e19_32, e19_35, e19_36, e19_39, e19_40, e19_41, e19_42, e19_43, e19_44, e19_47, e19_50, e19_51, e19_52, e19_55, e19_58, e19_59, zs0, zsI, zsL, zsR, ztl1, ztl0, zc0, zcI, zcL, zcR, true_and, and_true, true_implies, false_implies, implies_true, not_true_eq_false, not_false_eq_true, and_self, Int.toNat_natCast, Nat.reduceAdd, Nat.reduceLeDiff, Nat.reduceLT, forall_eq', Option.some.injEq, zarR, zarI, zarL, zle, zq0, zq1, zq2, zq3, zq4, zq5, zq6, zq8, zq9, zq10, zq20, zq7, zq12, zq24, zq40, zq41, zq48, zq100, zq120, zq123, zq480, zq492, zq700, zq729, zq2187, zq2916, zq8748, ne_eq, Int.reduceEq, Int.reduceLT, Int.reduceLE, Int.reduceToNat, Int.reduceMul, Int.reduceAdd, Int.reduceNeg, gk2 hg, gr2_9 hg, gr2_10 hg, gk1 hg, gl1 hg, or_true, true_or, if_true, if_false, false_and, and_false, false_or, or_false, ht, t6, t7, c, w trivial, s7, i16, il, z']
            apply K 0
            refine Or.inr ⟨rfl, fun hW => z ((isW_len hq hid hW).2 i (by omega))⟩
      have le' : ((rn (h 1) n q - st (h 1) n q : Nat) : Int) = ((zstr.getD id []).length : Int) := by
        have : kwl id = (zstr.getD id []).length := rfl
        omega
      have l0 := lp (kwl id) 0 (by omega) (fun i hi => by omega)
      simp only [zq0] at l0
      simp only [e19_0, e19_1, e19_4, e19_5, e19_8, e19_9, e19_12, e19_13, e19_16, e19_19, e19_20, e19_21, e19_22, e19_24, e19_25, e19_28, e19_31, e19_32, e19_35, e19_36, e19_39, e19_40, e19_41, e19_42, e19_43, e19_44, e19_47, e19_50, e19_51, e19_52, e19_55, e19_58, e19_59, zs0, zsI, zsL, zsR, ztl1, ztl0, zc0, zcI, zcL, zcR, true_and, and_true, true_implies, false_implies, implies_true, not_true_eq_false, not_false_eq_true, and_self, Int.toNat_natCast, Nat.reduceAdd, Nat.reduceLeDiff, Nat.reduceLT, forall_eq', Option.some.injEq, zarR, zarI, zarL, zle, zq0, zq1, zq2, zq3, zq4, zq5, zq6, zq8, zq9, zq10, zq20, zq7, zq12, zq24, zq40, zq41, zq48, zq100, zq120, zq123, zq480, zq492, zq700, zq729, zq2187, zq2916, zq8748, ne_eq, Int.reduceEq, Int.reduceLT, Int.reduceLE, Int.reduceToNat, Int.reduceMul, Int.reduceAdd, Int.reduceNeg, gk2 hg, gr2_9 hg, gr2_10 hg, or_true, true_or, if_true, if_false, false_and, and_false, false_or, or_false, t5, t7, i16, le', zq1]
      exact l0
    · have le' : ¬ ((rn (h 1) n q - st (h 1) n q : Nat) : Int) = ((zstr.getD id []).length : Int) := by
        have : kwl id = (zstr.getD id []).length := rfl
        omega
      simp only [e19_0, e19_1, e19_4, e19_5, e19_8, e19_9, e19_12, e19_13, e19_16, e19_19, e19_20, e19_21, e19_22, e19_24, e19_25, e19_28, e19_31, e19_32, e19_35, e19_36, e19_39, e19_40, e19_41, e19_42, e19_43, e19_44, e19_47, e19_50, e19_51, e19_52, e19_55, e19_58, e19_59, zs0, zsI, zsL, zsR, ztl1, ztl0, zc0, zcI, zcL, zcR, true_and, and_true, true_implies, false_implies, implies_true, not_true_eq_false, not_false_eq_true, and_self, Int.toNat_natCast, Nat.reduceAdd, Nat.reduceLeDiff, Nat.reduceLT, forall_eq', Option.some.injEq, zarR, zarI, zarL, zle, zq0, zq1, zq2, zq3, zq4, zq5, zq6, zq8, zq9, zq10, zq20, zq7, zq12, zq24, zq40, zq41, zq48, zq100, zq120, zq123, zq480, zq492, zq700, zq729, zq2187, zq2916, zq8748, ne_eq, Int.reduceEq, Int.reduceLT, Int.reduceLE, Int.reduceToNat, Int.reduceMul, Int.reduceAdd, Int.reduceNeg, gk2 hg, gr2_9 hg, gr2_10 hg, or_true, true_or, if_true, if_false, false_and, and_false, false_or, or_false, t5, t7, i16, le', zq1]
      exact K 0 (Or.inr ⟨rfl, fun hW => le (isW_len hq hid hW).1⟩)
  · have k1' : ¬ ((kd (h 1) n q : Nat) : Int) = 1 := by omega
    simp only [e19_0, e19_1, e19_4, e19_5, e19_8, e19_9, e19_12, e19_13, e19_16, e19_19, e19_20, e19_21, e19_22, e19_24, e19_25, e19_28, e19_31, e19_32, e19_35, e19_36, e19_39, e19_40, e19_41, e19_42, e19_43, e19_44, e19_47, e19_50, e19_51, e19_52, e19_55, e19_58, e19_59, zs0, zsI, zsL, zsR, ztl1, ztl0, zc0, zcI, zcL, zcR, true_and, and_true, true_implies, false_implies, implies_true, not_true_eq_false, not_false_eq_true, and_self, Int.toNat_natCast, Nat.reduceAdd, Nat.reduceLeDiff, Nat.reduceLT, forall_eq', Option.some.injEq, zarR, zarI, zarL, zle, zq0, zq1, zq2, zq3, zq4, zq5, zq6, zq8, zq9, zq10, zq20, zq7, zq12, zq24, zq40, zq41, zq48, zq100, zq120, zq123, zq480, zq492, zq700, zq729, zq2187, zq2916, zq8748, ne_eq, Int.reduceEq, Int.reduceLT, Int.reduceLE, Int.reduceToNat, Int.reduceMul, Int.reduceAdd, Int.reduceNeg, gk2 hg, gr2_9 hg, gr2_10 hg, or_true, true_or, if_true, if_false, false_and, and_false, false_or, or_false, t5, k1']
    exact K 0 (Or.inr ⟨rfl, fun hW => k1 hW.1⟩)
theorem c_fail (hg : gS G) {a b : Int} (h0 : h 2 1 = 0) : zRunD ztb zmt' (d + 1) 16 [zR (some 2), zI a, zI b] G h Q ↔ Q none G (zu (zu h 2 1 a) 2 0 b) := by
  rw [r16]
  simp only [e16_0, e16_1, e16_4, e16_7, e16_8, e16_9, e16_12, e16_13, e16_14, e16_17, zs0, zsI, zsL, zsR, ztl1, ztl0, zc0, zcI, zcL, zcR, true_and, and_true, true_implies, false_implies, implies_true, not_true_eq_false, not_false_eq_true, and_self, Int.toNat_natCast, Nat.reduceAdd, Nat.reduceLeDiff, Nat.reduceLT, forall_eq', Option.some.injEq, zarR, zarI, zarL, zle, zq0, zq1, zq2, zq3, zq4, zq5, zq6, zq8, zq9, zq10, zq20, zq7, zq12, zq24, zq40, zq41, zq48, zq100, zq120, zq123, zq480, zq492, zq700, zq729, zq2187, zq2916, zq8748, ne_eq, Int.reduceEq, Int.reduceLT, Int.reduceLE, Int.reduceToNat, Int.reduceMul, Int.reduceAdd, Int.reduceNeg, gk2 hg, gr2_9 hg, gr2_10 hg, or_true, true_or, if_true, if_false, false_and, and_false, false_or, or_false, h0]
theorem c_fail' (hg : gS G) {a b : Int} (h0 : ¬ h 2 1 = 0) : zRunD ztb zmt' (d + 1) 16 [zR (some 2), zI a, zI b] G h Q ↔ Q none G h := by
  rw [r16]
  simp only [e16_0, e16_1, e16_4, e16_7, e16_8, e16_9, e16_12, e16_13, e16_14, e16_17, zs0, zsI, zsL, zsR, ztl1, ztl0, zc0, zcI, zcL, zcR, true_and, and_true, true_implies, false_implies, implies_true, not_true_eq_false, not_false_eq_true, and_self, Int.toNat_natCast, Nat.reduceAdd, Nat.reduceLeDiff, Nat.reduceLT, forall_eq', Option.some.injEq, zarR, zarI, zarL, zle, zq0, zq1, zq2, zq3, zq4, zq5, zq6, zq8, zq9, zq10, zq20, zq7, zq12, zq24, zq40, zq41, zq48, zq100, zq120, zq123, zq480, zq492, zq700, zq729, zq2187, zq2916, zq8748, ne_eq, Int.reduceEq, Int.reduceLT, Int.reduceLE, Int.reduceToNat, Int.reduceMul, Int.reduceAdd, Int.reduceNeg, gk2 hg, gr2_9 hg, gr2_10 hg, or_true, true_or, if_true, if_false, false_and, and_false, false_or, or_false, h0]
/-- the one's reader: dead of a fault at a place, or at a token -/
def CS (n : Nat) (s : pE ⊕ Nat) (h : zM) : Prop := h 2 3 = (n : Int) ∧ match s with
  | .inl (f, p) => h 2 1 = f ∧ ¬ f = 0 ∧ h 2 0 = p ∧ ∃ q, TKc (h 1) n h q
  | .inr q => h 2 1 = 0 ∧ h 2 0 = -1 ∧ TKc (h 1) n h q
theorem TKc_fr {tp : Nat → Int} {h h' : zM} (T : TKc tp n h q) (f : ∀ i, 4 ≤ i → i ≤ 8 → h' 2 i = h 2 i) : TKc tp n h' q := by
  obtain ⟨a, b, c, e, g, k⟩ := T
  refine ⟨a, ?_, ?_, ?_, ?_, ?_⟩
  · rw [f 5 (by decide) (by decide)]; exact b
  · rw [f 6 (by decide) (by decide)]; exact c
  · rw [f 7 (by decide) (by decide)]; exact e
  · rw [f 8 (by decide) (by decide)]; exact g
  · rw [f 4 (by decide) (by decide)]; exact k
theorem CS_fr {s : pE ⊕ Nat} {h h' : zM} (c : CS n s h) (f1 : ∀ i, h' 1 i = h 1 i) (f2 : ∀ i, i ≤ 8 → h' 2 i = h 2 i) : CS n s h' := by
  have e : h' 1 = h 1 := funext f1
  refine ⟨by rw [f2 3 (by decide)]; exact c.1, ?_⟩
  rcases s with ⟨f, p⟩ | q
  · obtain ⟨a, b, c, q, T⟩ := c.2
    refine ⟨by rw [f2 1 (by decide)]; exact a, b, by rw [f2 0 (by decide)]; exact c, q, ?_⟩
    rw [e]
    exact TKc_fr T (fun i _ _ => f2 i (by omega))
  · obtain ⟨a, b, T⟩ := c.2
    refine ⟨by rw [f2 1 (by decide)]; exact a, by rw [f2 0 (by decide)]; exact b, ?_⟩
    rw [e]
    exact TKc_fr T (fun i _ _ => f2 i (by omega))
/-- a fault where a token stands -/
theorem CS_die {s : Nat} (c : CS n (.inr s) h) {a b : Int} (ha : ¬ a = 0) : CS n (.inl (a, b)) (zu (zu h 2 1 a) 2 0 b) := by
  refine ⟨by rw [zu_i (by decide), zu_i (by decide)]; exact c.1, by rw [zu_i (by decide), zu_at], ha, zu_at, s, ?_⟩
  have e : (zu (zu h 2 1 a) 2 0 b) 1 = h 1 := by funext i; rw [zu_c (by decide), zu_c (by decide)]
  rw [e]
  exact TKc_fr c.2.2.2 (fun i _ _ => by rw [zu_i (by omega), zu_i (by omega)])
def pPs (tp : Nat → Int) (n k : Nat) (q : Nat) : pE ⊕ Nat := if kd tp n q = k then .inr (nxt tp n q) else .inl (1, (st tp n q : Nat))
theorem c_step (hg : gS G) (ht : G.2.2.2 2 2 = some 1) (hn : n ≤ 700) (c : CS n (.inr q) h) (hk : ¬ kd (h 1) n q = 5) (K : ∀ h' : zM, (∀ c i, ¬ (c = 2 ∧ i ≤ 8) → h' c i = h c i) → CS n (.inr (nxt (h 1) n q)) h' → Q none G h') : zRunD ztb zmt' (d + 2) 17 [zR (some 2)] G h Q := by
  obtain ⟨c3, c1, c0, T⟩ := c
  have nb := nxt_b (tp := h 1) q T.1
  apply c_next hg ht c3 hn (T.2.2.2.2.2 hk) nb.2.1
  intro h' f T'
  apply K h' (fun c i z => f c i (by omega))
  have e : h' 1 = h 1 := funext (fun i => f _ _ (by omega))
  refine ⟨by rw [f _ _ (by omega)]; exact c3, by rw [f _ _ (by omega)]; exact c1, by rw [f _ _ (by omega)]; exact c0, ?_⟩
  rw [e]
  exact T'
/-- pass: dead it stays, else on by one token of that kind -/
theorem c_pass (hg : gS G) (ht : G.2.2.2 2 2 = some 1) (hn : n ≤ 700) {s : pE ⊕ Nat} (c : CS n s h) {k : Nat} (hk : k < 5) (hk0 : 0 < k) (K : ∀ h' : zM, (∀ c i, ¬ (c = 2 ∧ i ≤ 8) → h' c i = h c i) → (∀ e, s = .inl e → h' = h) → CS n (sP s (pPs (h 1) n k)) h' → Q none G h') : zRunD ztb zmt' (d + 3) 30 [zR (some 2), zI k] G h Q := by
  rw [r30]
  rcases s with ⟨f, p⟩ | q
  · have c1 : ¬ h 2 1 = 0 := by rw [c.2.1]; exact c.2.2.1
    simp only [e30_0, e30_1, e30_4, e30_7, e30_8, e30_9, e30_12, e30_13, e30_16, e30_17, e30_18, e30_19, e30_22, e30_25, e30_28, e30_29, e30_32, zs0, zsI, zsL, zsR, ztl1, ztl0, zc0, zcI, zcL, zcR, true_and, and_true, true_implies, false_implies, implies_true, not_true_eq_false, not_false_eq_true, and_self, Int.toNat_natCast, Nat.reduceAdd, Nat.reduceLeDiff, Nat.reduceLT, forall_eq', Option.some.injEq, zarR, zarI, zarL, zle, zq0, zq1, zq2, zq3, zq4, zq5, zq6, zq8, zq9, zq10, zq20, zq7, zq12, zq24, zq40, zq41, zq48, zq100, zq120, zq123, zq480, zq492, zq700, zq729, zq2187, zq2916, zq8748, ne_eq, Int.reduceEq, Int.reduceLT, Int.reduceLE, Int.reduceToNat, Int.reduceMul, Int.reduceAdd, Int.reduceNeg, gk2 hg, gr2_9 hg, gr2_10 hg, or_true, true_or, if_true, if_false, false_and, and_false, false_or, or_false, c1]
    exact K h (fun _ _ _ => rfl) (fun _ _ => rfl) c
  · have c1 : h 2 1 = 0 := c.2.1
    have t5 := c.2.2.2.2.1
    have t6 := c.2.2.2.2.2.1
    dsimp only [sP, sV] at K
    unfold pPs at K
    by_cases z : kd (h 1) n q = k
    · rw [if_pos z] at K
      rw [z] at t5
      simp only [e30_0, e30_1, e30_4, e30_7, e30_8, e30_9, e30_12, e30_13, e30_16, e30_17, e30_18, e30_19, e30_22, e30_25, e30_28, e30_29, zs0, zsI, zsL, zsR, ztl1, ztl0, zc0, zcI, zcL, zcR, true_and, and_true, true_implies, false_implies, implies_true, not_true_eq_false, not_false_eq_true, and_self, Int.toNat_natCast, Nat.reduceAdd, Nat.reduceLeDiff, Nat.reduceLT, forall_eq', Option.some.injEq, zarR, zarI, zarL, zle, zq0, zq1, zq2, zq3, zq4, zq5, zq6, zq8, zq9, zq10, zq20, zq7, zq12, zq24, zq40, zq41, zq48, zq100, zq120, zq123, zq480, zq492, zq700, zq729, zq2187, zq2916, zq8748, ne_eq, Int.reduceEq, Int.reduceLT, Int.reduceLE, Int.reduceToNat, Int.reduceMul, Int.reduceAdd, Int.reduceNeg, gk2 hg, gr2_9 hg, gr2_10 hg, c1, t5]
      apply c_step (d := d) hg ht hn c (by omega)
      intro h' f2 c2
      simp only [e30_32, zs0, zsI, zsL, zsR, ztl1, ztl0, zc0, zcI, zcL, zcR, true_and, and_true, true_implies, false_implies, implies_true, not_true_eq_false, not_false_eq_true, and_self, Int.toNat_natCast, Nat.reduceAdd, Nat.reduceLeDiff, Nat.reduceLT, forall_eq', Option.some.injEq, zarR, zarI, zarL, zle, zq0, zq1, zq2, zq3, zq4, zq5, zq6, zq8, zq9, zq10, zq20, zq7, zq12, zq24, zq40, zq41, zq48, zq100, zq120, zq123, zq480, zq492, zq700, zq729, zq2187, zq2916, zq8748, ne_eq, Int.reduceEq, Int.reduceLT, Int.reduceLE, Int.reduceToNat, Int.reduceMul, Int.reduceAdd, Int.reduceNeg]
      exact K h' f2 (fun e z => by cases z) c2
    · rw [if_neg z] at K
      have z' : ¬ ((kd (h 1) n q : Nat) : Int) = (k : Int) := by omega
      simp only [e30_0, e30_1, e30_4, e30_7, e30_8, e30_9, e30_12, e30_13, e30_16, e30_17, e30_18, e30_19, e30_22, e30_25, e30_28, e30_29, e30_32, zs0, zsI, zsL, zsR, ztl1, ztl0, zc0, zcI, zcL, zcR, true_and, and_true, true_implies, false_implies, implies_true, not_true_eq_false, not_false_eq_true, and_self, Int.toNat_natCast, Nat.reduceAdd, Nat.reduceLeDiff, Nat.reduceLT, forall_eq', Option.some.injEq, zarR, zarI, zarL, zle, zq0, zq1, zq2, zq3, zq4, zq5, zq6, zq8, zq9, zq10, zq20, zq7, zq12, zq24, zq40, zq41, zq48, zq100, zq120, zq123, zq480, zq492, zq700, zq729, zq2187, zq2916, zq8748, ne_eq, Int.reduceEq, Int.reduceLT, Int.reduceLE, Int.reduceToNat, Int.reduceMul, Int.reduceAdd, Int.reduceNeg, gk2 hg, gr2_9 hg, gr2_10 hg, or_true, true_or, if_true, if_false, false_and, and_false, false_or, or_false, c1, t5, t6, z', c_fail hg c1]
      exact K _ (fun c i z => by rw [zu, if_neg (by omega), zu, if_neg (by omega)]) (fun e z => by cases z) (CS_die c (by decide))
def pWh (tp : Nat → Int) (n id : Nat) (most : Int) (q : Nat) : pE ⊕ (Nat × Int) := if kd tp n q = 1 ∧ wd tp n q = kwc id then pN tp n 0 most (nxt tp n q) else .inl (1, (st tp n q : Nat))
theorem nb_0 {tp : Nat → Int} {n q : Nat} (h : kd tp n q = 2) : 0 ≤ nb tp n q := by
  have k2 := kd_2 h
  exact (vC_nmb (tp := tp) (p := st tp n q) (l := rn tp n q - st tp n q) (by omega) (fun i hi => k2.2.2.2.2.2 _ (by omega) (by omega))).2.1
/-- what comes of a whole: dead, or its value and the token behind it -/
def CV (n : Nat) (r : pE ⊕ (Nat × Int)) (h : zM) (v : Int) : Prop := match r with
  | .inl e => CS n (.inl e) h
  | .inr (q, x) => CS n (.inr q) h ∧ v = x
theorem c_readWhole (hg : gS G) (ht : G.2.2.2 2 2 = some 1) (hn : n ≤ 700) {s : pE ⊕ Nat} (c : CS n s h) (hid : id < 15) {most : Int} (K : ∀ (v : Int) (h' : zM), (∀ c i, ¬ (c = 2 ∧ i ≤ 8) → h' c i = h c i) → CV n (sV s (pWh (h 1) n id most)) h' v → Q (some (zI v)) G h') : zRunD ztb zmt' (d + 4) 28 [zR (some 2), zT id, zI most] G h Q := by
  rw [r28]
  -- behind the word
  have two : ∀ (s : pE ⊕ Nat) (h1 : zM), (∀ c i, ¬ (c = 2 ∧ i ≤ 8) → h1 c i = h c i) → CS n s h1 → (∀ (v : Int) (h' : zM), (∀ c i, ¬ (c = 2 ∧ i ≤ 8) → h' c i = h c i) → CV n (sV s (pN (h 1) n 0 most)) h' v → Q (some (zI v)) G h') → zE 28 (d + 3) Q 29 [some (zR (some 2)), some (zT id), some (zI most), none] [] G h1 (0, 0) := by
    intro s h1 f1 c1 KK
    have e1 : h1 1 = h 1 := funext (fun i => f1 _ _ (by omega))
    have last : ∀ (s' : pE ⊕ Nat) (h2 : zM), (∀ c i, ¬ (c = 2 ∧ i ≤ 8) → h2 c i = h c i) → CS n s' h2 → (∀ h' : zM, (∀ c i, ¬ (c = 2 ∧ i ≤ 8) → h' c i = h c i) → CS n (sP s' (pPs (h 1) n 2)) h' → Q (some (zI (h2 2 8))) G h') → zE 28 (d + 3) Q 61 [some (zR (some 2)), some (zT id), some (zI most), none] [] G h2 (0, 0) := by
      intro s' h2 f2 c2 K2
      have e2 : h2 1 = h 1 := funext (fun i => f2 _ _ (by omega))
      simp only [e28_61, e28_62, e28_65, e28_66, e28_67, e28_68, zs0, zsI, zsL, zsR, ztl1, ztl0, zc0, zcI, zcL, zcR, true_and, and_true, true_implies, false_implies, implies_true, not_true_eq_false, not_false_eq_true, and_self, Int.toNat_natCast, Nat.reduceAdd, Nat.reduceLeDiff, Nat.reduceLT, forall_eq', Option.some.injEq, zarR, zarI, zarL, zle, zq0, zq1, zq2, zq3, zq4, zq5, zq6, zq8, zq9, zq10, zq20, zq7, zq12, zq24, zq40, zq41, zq48, zq100, zq120, zq123, zq480, zq492, zq700, zq729, zq2187, zq2916, zq8748, ne_eq, Int.reduceEq, Int.reduceLT, Int.reduceLE, Int.reduceToNat, Int.reduceMul, Int.reduceAdd, Int.reduceNeg, gk2 hg, gr2_9 hg, gr2_10 hg]
      have cp := c_pass (d := d) (k := 2) (Q := fun v G' h' => v = none ∧ zE 28 (d + 3) Q 71 [some (zR (some 2)), some (zT id), some (zI most), some (zI (h2 2 8))] [] G' h' (0, 0)) hg ht hn c2 (by decide) (by decide) ?_
      · rw [zq2] at cp
        apply zRunD_mono ztb zmt' (d + 3) _ _ _ _ _ _ _ cp
        rintro v G' h' ⟨rfl, q⟩
        exact q
      · intro h3 f3 _ c3
        refine ⟨rfl, ?_⟩
        rw [e2] at c3
        simp only [e28_71, e28_72, zs0, zsI, zsL, zsR, ztl1, ztl0, zc0, zcI, zcL, zcR, true_and, and_true, true_implies, false_implies, implies_true, not_true_eq_false, not_false_eq_true, and_self, Int.toNat_natCast, Nat.reduceAdd, Nat.reduceLeDiff, Nat.reduceLT, forall_eq', Option.some.injEq, zarR, zarI, zarL, zle, zq0, zq1, zq2, zq3, zq4, zq5, zq6, zq8, zq9, zq10, zq20, zq7, zq12, zq24, zq40, zq41, zq48, zq100, zq120, zq123, zq480, zq492, zq700, zq729, zq2187, zq2916, zq8748, ne_eq, Int.reduceEq, Int.reduceLT, Int.reduceLE, Int.reduceToNat, Int.reduceMul, Int.reduceAdd, Int.reduceNeg]
        exact K2 h3 (fun c i z => by rw [f3 c i z, f2 c i z]) c3
    rcases s with ⟨f, p⟩ | q
    · have z1 : ¬ h1 2 1 = 0 := by rw [c1.2.1]; exact c1.2.2.1
      simp only [e28_29, e28_30, e28_33, e28_36, e28_37, e28_40, e28_41, e28_44, e28_45, e28_48, e28_49, e28_52, e28_53, e28_54, e28_55, e28_58, zs0, zsI, zsL, zsR, ztl1, ztl0, zc0, zcI, zcL, zcR, true_and, and_true, true_implies, false_implies, implies_true, not_true_eq_false, not_false_eq_true, and_self, Int.toNat_natCast, Nat.reduceAdd, Nat.reduceLeDiff, Nat.reduceLT, forall_eq', Option.some.injEq, zarR, zarI, zarL, zle, zq0, zq1, zq2, zq3, zq4, zq5, zq6, zq8, zq9, zq10, zq20, zq7, zq12, zq24, zq40, zq41, zq48, zq100, zq120, zq123, zq480, zq492, zq700, zq729, zq2187, zq2916, zq8748, ne_eq, Int.reduceEq, Int.reduceLT, Int.reduceLE, Int.reduceToNat, Int.reduceMul, Int.reduceAdd, Int.reduceNeg, gk2 hg, gr2_9 hg, gr2_10 hg, z1]
      apply last (.inl (f, p)) h1 f1 c1
      intro h' f' c'
      exact KK _ h' f' c'
    · have z1 : h1 2 1 = 0 := c1.2.1
      have t5 := c1.2.2.2.2.1
      have t6 := c1.2.2.2.2.2.1
      have t8 := c1.2.2.2.2.2.2.2.1
      rw [e1] at t5 t6 t8
      dsimp only [sP, sV] at KK
      unfold pN at KK
      by_cases k2 : kd (h 1) n q = 2
      · have t8 := t8 k2
        have n0 := nb_0 k2
        rw [if_neg (by omega)] at KK
        rw [k2] at t5
        by_cases le : nb (h 1) n q ≤ most
        · rw [if_neg (by omega)] at KK
          simp only [e28_29, e28_30, e28_33, e28_36, e28_37, e28_40, e28_41, e28_44, e28_45, e28_48, e28_49, e28_52, e28_53, e28_54, e28_55, e28_58, zs0, zsI, zsL, zsR, ztl1, ztl0, zc0, zcI, zcL, zcR, true_and, and_true, true_implies, false_implies, implies_true, not_true_eq_false, not_false_eq_true, and_self, Int.toNat_natCast, Nat.reduceAdd, Nat.reduceLeDiff, Nat.reduceLT, forall_eq', Option.some.injEq, zarR, zarI, zarL, zle, zq0, zq1, zq2, zq3, zq4, zq5, zq6, zq8, zq9, zq10, zq20, zq7, zq12, zq24, zq40, zq41, zq48, zq100, zq120, zq123, zq480, zq492, zq700, zq729, zq2187, zq2916, zq8748, ne_eq, Int.reduceEq, Int.reduceLT, Int.reduceLE, Int.reduceToNat, Int.reduceMul, Int.reduceAdd, Int.reduceNeg, gk2 hg, gr2_9 hg, gr2_10 hg, z1, t5, t8, le]
          apply last (.inr q) h1 f1 c1
          intro h' f' c'
          dsimp only [sP, sV] at c'
          unfold pPs at c'
          rw [if_pos k2] at c'
          exact KK _ h' f' ⟨c', t8⟩
        · rw [if_pos (by omega)] at KK
          simp only [e28_29, e28_30, e28_33, e28_36, e28_37, e28_40, e28_41, e28_44, e28_45, e28_48, e28_49, e28_52, e28_53, e28_54, e28_55, e28_58, zs0, zsI, zsL, zsR, ztl1, ztl0, zc0, zcI, zcL, zcR, true_and, and_true, true_implies, false_implies, implies_true, not_true_eq_false, not_false_eq_true, and_self, Int.toNat_natCast, Nat.reduceAdd, Nat.reduceLeDiff, Nat.reduceLT, forall_eq', Option.some.injEq, zarR, zarI, zarL, zle, zq0, zq1, zq2, zq3, zq4, zq5, zq6, zq8, zq9, zq10, zq20, zq7, zq12, zq24, zq40, zq41, zq48, zq100, zq120, zq123, zq480, zq492, zq700, zq729, zq2187, zq2916, zq8748, ne_eq, Int.reduceEq, Int.reduceLT, Int.reduceLE, Int.reduceToNat, Int.reduceMul, Int.reduceAdd, Int.reduceNeg, gk2 hg, gr2_9 hg, gr2_10 hg, z1, t5, t6, t8, le, c_fail hg z1]
          apply last (.inl (4, (st (h 1) n q : Nat))) _ (fun c i z => by rw [zu, if_neg (by omega), zu, if_neg (by omega)]; exact f1 c i z) (CS_die c1 (by decide))
          intro h' f' c'
          exact KK _ h' f' c'
      · have k2' : ¬ ((kd (h 1) n q : Nat) : Int) = 2 := by omega
        rw [if_pos k2] at KK
        simp only [e28_29, e28_30, e28_33, e28_36, e28_37, e28_40, e28_41, e28_44, e28_45, e28_48, e28_49, e28_52, e28_53, e28_54, e28_55, e28_58, zs0, zsI, zsL, zsR, ztl1, ztl0, zc0, zcI, zcL, zcR, true_and, and_true, true_implies, false_implies, implies_true, not_true_eq_false, not_false_eq_true, and_self, Int.toNat_natCast, Nat.reduceAdd, Nat.reduceLeDiff, Nat.reduceLT, forall_eq', Option.some.injEq, zarR, zarI, zarL, zle, zq0, zq1, zq2, zq3, zq4, zq5, zq6, zq8, zq9, zq10, zq20, zq7, zq12, zq24, zq40, zq41, zq48, zq100, zq120, zq123, zq480, zq492, zq700, zq729, zq2187, zq2916, zq8748, ne_eq, Int.reduceEq, Int.reduceLT, Int.reduceLE, Int.reduceToNat, Int.reduceMul, Int.reduceAdd, Int.reduceNeg, gk2 hg, gr2_9 hg, gr2_10 hg, z1, t5, k2']
        apply last (.inr q) h1 f1 c1
        intro h' f' c'
        dsimp only [sP, sV] at c'
        unfold pPs at c'
        rw [if_neg k2] at c'
        exact KK _ h' f' c'
  have one : ∀ (s' : pE ⊕ Nat) (h1 : zM), (∀ c i, ¬ (c = 2 ∧ i ≤ 8) → h1 c i = h c i) → CS n s' h1 → (∀ (v : Int) (h' : zM), (∀ c i, ¬ (c = 2 ∧ i ≤ 8) → h' c i = h c i) → CV n (sV (sP s' (pPs (h 1) n 1)) (pN (h 1) n 0 most)) h' v → Q (some (zI v)) G h') → zE 28 (d + 3) Q 24 [some (zR (some 2)), some (zT id), some (zI most), none] [] G h1 (0, 0) := by
    intro s' h1 f1 c1 KK
    have e1 : h1 1 = h 1 := funext (fun i => f1 _ _ (by omega))
    simp only [e28_24, e28_25, e28_26, zs0, zsI, zsL, zsR, ztl1, ztl0, zc0, zcI, zcL, zcR, true_and, and_true, true_implies, false_implies, implies_true, not_true_eq_false, not_false_eq_true, and_self, Int.toNat_natCast, Nat.reduceAdd, Nat.reduceLeDiff, Nat.reduceLT, forall_eq', Option.some.injEq, zarR, zarI, zarL, zle, zq0, zq1, zq2, zq3, zq4, zq5, zq6, zq8, zq9, zq10, zq20, zq7, zq12, zq24, zq40, zq41, zq48, zq100, zq120, zq123, zq480, zq492, zq700, zq729, zq2187, zq2916, zq8748, ne_eq, Int.reduceEq, Int.reduceLT, Int.reduceLE, Int.reduceToNat, Int.reduceMul, Int.reduceAdd, Int.reduceNeg, gk2 hg, gr2_9 hg, gr2_10 hg]
    have cp := c_pass (d := d) (k := 1) (Q := fun v G' h' => v = none ∧ zE 28 (d + 3) Q 29 [some (zR (some 2)), some (zT id), some (zI most), none] [] G' h' (0, 0)) hg ht hn c1 (by decide) (by decide) ?_
    · rw [zq1] at cp
      apply zRunD_mono ztb zmt' (d + 3) _ _ _ _ _ _ _ cp
      rintro v G' h' ⟨rfl, q⟩
      exact q
    · intro h2 f2 _ c2
      refine ⟨rfl, ?_⟩
      rw [e1] at c2
      apply two _ h2 (fun c i z => by rw [f2 c i z, f1 c i z]) c2
      intro v h' f' c'
      exact KK v h' f' c'
  rcases s with ⟨f, p⟩ | q
  · have z1 : ¬ h 2 1 = 0 := by rw [c.2.1]; exact c.2.2.1
    simp only [e28_0, e28_1, e28_4, e28_7, e28_8, e28_9, e28_12, e28_15, e28_16, e28_17, e28_18, e28_21, zs0, zsI, zsL, zsR, ztl1, ztl0, zc0, zcI, zcL, zcR, true_and, and_true, true_implies, false_implies, implies_true, not_true_eq_false, not_false_eq_true, and_self, Int.toNat_natCast, Nat.reduceAdd, Nat.reduceLeDiff, Nat.reduceLT, forall_eq', Option.some.injEq, zarR, zarI, zarL, zle, zq0, zq1, zq2, zq3, zq4, zq5, zq6, zq8, zq9, zq10, zq20, zq7, zq12, zq24, zq40, zq41, zq48, zq100, zq120, zq123, zq480, zq492, zq700, zq729, zq2187, zq2916, zq8748, ne_eq, Int.reduceEq, Int.reduceLT, Int.reduceLE, Int.reduceToNat, Int.reduceMul, Int.reduceAdd, Int.reduceNeg, gk2 hg, gr2_9 hg, gr2_10 hg, z1]
    apply one (.inl (f, p)) h (fun _ _ _ => rfl) c
    intro v h' f' c'
    exact K v h' f' c'
  · have z1 : h 2 1 = 0 := c.2.1
    have t6 := c.2.2.2.2.2.1
    simp only [e28_0, e28_1, e28_4, e28_7, e28_8, e28_9, zs0, zsI, zsL, zsR, ztl1, ztl0, zc0, zcI, zcL, zcR, true_and, and_true, true_implies, false_implies, implies_true, not_true_eq_false, not_false_eq_true, and_self, Int.toNat_natCast, Nat.reduceAdd, Nat.reduceLeDiff, Nat.reduceLT, forall_eq', Option.some.injEq, zarR, zarI, zarL, zle, zq0, zq1, zq2, zq3, zq4, zq5, zq6, zq8, zq9, zq10, zq20, zq7, zq12, zq24, zq40, zq41, zq48, zq100, zq120, zq123, zq480, zq492, zq700, zq729, zq2187, zq2916, zq8748, ne_eq, Int.reduceEq, Int.reduceLT, Int.reduceLE, Int.reduceToNat, Int.reduceMul, Int.reduceAdd, Int.reduceNeg, gk2 hg, gr2_9 hg, gr2_10 hg, z1]
    apply c_isWord (d := d + 2) hg ht hn hid c.2.2.2
    intro v hv
    dsimp only [sP, sV] at K
    unfold pWh at K
    rcases hv with ⟨rfl, hw⟩ | ⟨rfl, hw⟩
    · have hw' : kd (h 1) n q = 1 ∧ wd (h 1) n q = kwc id := hw
      rw [if_pos hw'] at K
      simp only [e28_12, e28_15, e28_16, e28_17, e28_18, e28_21, zs0, zsI, zsL, zsR, ztl1, ztl0, zc0, zcI, zcL, zcR, true_and, and_true, true_implies, false_implies, implies_true, not_true_eq_false, not_false_eq_true, and_self, Int.toNat_natCast, Nat.reduceAdd, Nat.reduceLeDiff, Nat.reduceLT, forall_eq', Option.some.injEq, zarR, zarI, zarL, zle, zq0, zq1, zq2, zq3, zq4, zq5, zq6, zq8, zq9, zq10, zq20, zq7, zq12, zq24, zq40, zq41, zq48, zq100, zq120, zq123, zq480, zq492, zq700, zq729, zq2187, zq2916, zq8748, ne_eq, Int.reduceEq, Int.reduceLT, Int.reduceLE, Int.reduceToNat, Int.reduceMul, Int.reduceAdd, Int.reduceNeg, gk2 hg, gr2_9 hg, gr2_10 hg]
      apply one (.inr q) h (fun _ _ _ => rfl) c
      intro v h' f' c'
      dsimp only [sP, sV] at c'
      unfold pPs at c'
      rw [if_pos hw'.1] at c'
      exact K v h' f' c'
    · have hw' : ¬ (kd (h 1) n q = 1 ∧ wd (h 1) n q = kwc id) := hw
      rw [if_neg hw'] at K
      simp only [e28_12, e28_15, e28_16, e28_17, e28_18, e28_21, zs0, zsI, zsL, zsR, ztl1, ztl0, zc0, zcI, zcL, zcR, true_and, and_true, true_implies, false_implies, implies_true, not_true_eq_false, not_false_eq_true, and_self, Int.toNat_natCast, Nat.reduceAdd, Nat.reduceLeDiff, Nat.reduceLT, forall_eq', Option.some.injEq, zarR, zarI, zarL, zle, zq0, zq1, zq2, zq3, zq4, zq5, zq6, zq8, zq9, zq10, zq20, zq7, zq12, zq24, zq40, zq41, zq48, zq100, zq120, zq123, zq480, zq492, zq700, zq729, zq2187, zq2916, zq8748, ne_eq, Int.reduceEq, Int.reduceLT, Int.reduceLE, Int.reduceToNat, Int.reduceMul, Int.reduceAdd, Int.reduceNeg, gk2 hg, gr2_9 hg, gr2_10 hg, t6, c_fail hg z1]
      apply one (.inl (1, (st (h 1) n q : Nat))) _ (fun c i z => by rw [zu, if_neg (by omega), zu, if_neg (by omega)]) (CS_die c (by decide))
      intro v h' f' c'
      exact K v h' f' c'
def pEi (tp : Nat → Int) (n o1 o2 : Nat) (q : Nat) : pE ⊕ (Nat × Int) := if kd tp n q = 1 ∧ wd tp n q = kwc o2 then .inr (nxt tp n q, 1) else if kd tp n q = 1 ∧ wd tp n q = kwc o1 then .inr (nxt tp n q, 0) else .inl (1, (st tp n q : Nat))
theorem c_readEither (hg : gS G) (ht : G.2.2.2 2 2 = some 1) (hn : n ≤ 700) {s : pE ⊕ Nat} (c : CS n s h) {o1 o2 : Nat} (h1 : o1 < 15) (h2 : o2 < 15) (K : ∀ (v : Int) (h' : zM), (∀ c i, ¬ (c = 2 ∧ i ≤ 8) → h' c i = h c i) → CV n (sV s (pEi (h 1) n o1 o2)) h' v → Q (some (zI v)) G h') : zRunD ztb zmt' (d + 4) 29 [zR (some 2), zT o1, zT o2] G h Q := by
  rw [r29]
  have last : ∀ (w : Int) (s' : pE ⊕ Nat) (h1 : zM), (∀ c i, ¬ (c = 2 ∧ i ≤ 8) → h1 c i = h c i) → CS n s' h1 → (∀ h' : zM, (∀ c i, ¬ (c = 2 ∧ i ≤ 8) → h' c i = h c i) → CS n (sP s' (pPs (h 1) n 1)) h' → Q (some (zI w)) G h') → zE 29 (d + 3) Q 42 [some (zR (some 2)), some (zT o1), some (zT o2), some (zI w)] [] G h1 (0, 0) := by
    intro w s' h1 f1 c1 KK
    have e1 : h1 1 = h 1 := funext (fun i => f1 _ _ (by omega))
    simp only [e29_42, e29_43, e29_44, zs0, zsI, zsL, zsR, ztl1, ztl0, zc0, zcI, zcL, zcR, true_and, and_true, true_implies, false_implies, implies_true, not_true_eq_false, not_false_eq_true, and_self, Int.toNat_natCast, Nat.reduceAdd, Nat.reduceLeDiff, Nat.reduceLT, forall_eq', Option.some.injEq, zarR, zarI, zarL, zle, zq0, zq1, zq2, zq3, zq4, zq5, zq6, zq8, zq9, zq10, zq20, zq7, zq12, zq24, zq40, zq41, zq48, zq100, zq120, zq123, zq480, zq492, zq700, zq729, zq2187, zq2916, zq8748, ne_eq, Int.reduceEq, Int.reduceLT, Int.reduceLE, Int.reduceToNat, Int.reduceMul, Int.reduceAdd, Int.reduceNeg, gk2 hg, gr2_9 hg, gr2_10 hg]
    have cp := c_pass (d := d) (k := 1) (Q := fun v G' h' => v = none ∧ zE 29 (d + 3) Q 47 [some (zR (some 2)), some (zT o1), some (zT o2), some (zI w)] [] G' h' (0, 0)) hg ht hn c1 (by decide) (by decide) ?_
    · rw [zq1] at cp
      apply zRunD_mono ztb zmt' (d + 3) _ _ _ _ _ _ _ cp
      rintro v G' h' ⟨rfl, q⟩
      exact q
    · intro h2 f2 _ c2
      refine ⟨rfl, ?_⟩
      rw [e1] at c2
      simp only [e29_47, e29_48, zs0, zsI, zsL, zsR, ztl1, ztl0, zc0, zcI, zcL, zcR, true_and, and_true, true_implies, false_implies, implies_true, not_true_eq_false, not_false_eq_true, and_self, Int.toNat_natCast, Nat.reduceAdd, Nat.reduceLeDiff, Nat.reduceLT, forall_eq', Option.some.injEq, zarR, zarI, zarL, zle, zq0, zq1, zq2, zq3, zq4, zq5, zq6, zq8, zq9, zq10, zq20, zq7, zq12, zq24, zq40, zq41, zq48, zq100, zq120, zq123, zq480, zq492, zq700, zq729, zq2187, zq2916, zq8748, ne_eq, Int.reduceEq, Int.reduceLT, Int.reduceLE, Int.reduceToNat, Int.reduceMul, Int.reduceAdd, Int.reduceNeg]
      exact KK h2 (fun c i z => by rw [f2 c i z, f1 c i z]) c2
  simp only [e29_0, e29_1, e29_2, zs0, zsI, zsL, zsR, ztl1, ztl0, zc0, zcI, zcL, zcR, true_and, and_true, true_implies, false_implies, implies_true, not_true_eq_false, not_false_eq_true, and_self, Int.toNat_natCast, Nat.reduceAdd, Nat.reduceLeDiff, Nat.reduceLT, forall_eq', Option.some.injEq, zarR, zarI, zarL, zle, zq0, zq1, zq2, zq3, zq4, zq5, zq6, zq8, zq9, zq10, zq20, zq7, zq12, zq24, zq40, zq41, zq48, zq100, zq120, zq123, zq480, zq492, zq700, zq729, zq2187, zq2916, zq8748, ne_eq, Int.reduceEq, Int.reduceLT, Int.reduceLE, Int.reduceToNat, Int.reduceMul, Int.reduceAdd, Int.reduceNeg, gk2 hg, gr2_9 hg, gr2_10 hg]
  rcases s with ⟨f, p⟩ | q
  · obtain ⟨q, T⟩ := c.2.2.2.2
    have z1 : ¬ h 2 1 = 0 := by rw [c.2.1]; exact c.2.2.1
    apply c_isWord (d := d + 2) hg ht hn h2 T
    intro v hv
    rcases hv with ⟨rfl, _⟩ | ⟨rfl, _⟩
    · simp only [e29_5, e29_8, e29_9, e29_12, e29_13, e29_14, e29_15, e29_18, e29_21, e29_22, e29_25, e29_26, e29_27, e29_30, e29_33, e29_34, e29_35, e29_36, e29_39, zs0, zsI, zsL, zsR, ztl1, ztl0, zc0, zcI, zcL, zcR, true_and, and_true, true_implies, false_implies, implies_true, not_true_eq_false, not_false_eq_true, and_self, Int.toNat_natCast, Nat.reduceAdd, Nat.reduceLeDiff, Nat.reduceLT, forall_eq', Option.some.injEq, zarR, zarI, zarL, zle, zq0, zq1, zq2, zq3, zq4, zq5, zq6, zq8, zq9, zq10, zq20, zq7, zq12, zq24, zq40, zq41, zq48, zq100, zq120, zq123, zq480, zq492, zq700, zq729, zq2187, zq2916, zq8748, ne_eq, Int.reduceEq, Int.reduceLT, Int.reduceLE, Int.reduceToNat, Int.reduceMul, Int.reduceAdd, Int.reduceNeg, gk2 hg, gr2_9 hg, gr2_10 hg, z1]
      exact last 1 (.inl (f, p)) h (fun _ _ _ => rfl) c (fun h' f' c' => K 1 h' f' c')
    · simp only [e29_5, e29_8, e29_9, e29_12, e29_13, e29_14, e29_15, e29_18, e29_21, e29_22, e29_25, e29_26, e29_27, e29_30, e29_33, e29_34, e29_35, e29_36, e29_39, zs0, zsI, zsL, zsR, ztl1, ztl0, zc0, zcI, zcL, zcR, true_and, and_true, true_implies, false_implies, implies_true, not_true_eq_false, not_false_eq_true, and_self, Int.toNat_natCast, Nat.reduceAdd, Nat.reduceLeDiff, Nat.reduceLT, forall_eq', Option.some.injEq, zarR, zarI, zarL, zle, zq0, zq1, zq2, zq3, zq4, zq5, zq6, zq8, zq9, zq10, zq20, zq7, zq12, zq24, zq40, zq41, zq48, zq100, zq120, zq123, zq480, zq492, zq700, zq729, zq2187, zq2916, zq8748, ne_eq, Int.reduceEq, Int.reduceLT, Int.reduceLE, Int.reduceToNat, Int.reduceMul, Int.reduceAdd, Int.reduceNeg, gk2 hg, gr2_9 hg, gr2_10 hg, z1]
      exact last 0 (.inl (f, p)) h (fun _ _ _ => rfl) c (fun h' f' c' => K 0 h' f' c')
  · have z1 : h 2 1 = 0 := c.2.1
    have t6 := c.2.2.2.2.2.1
    apply c_isWord (d := d + 2) hg ht hn h2 c.2.2.2
    intro v hv
    dsimp only [sP, sV] at K
    unfold pEi at K
    rcases hv with ⟨rfl, hw⟩ | ⟨rfl, hw⟩
    · have hw' : kd (h 1) n q = 1 ∧ wd (h 1) n q = kwc o2 := hw
      rw [if_pos hw'] at K
      simp only [e29_5, e29_8, e29_9, e29_12, e29_13, e29_14, e29_15, e29_18, e29_21, e29_22, e29_25, e29_26, e29_27, e29_30, e29_33, e29_34, e29_35, e29_36, e29_39, zs0, zsI, zsL, zsR, ztl1, ztl0, zc0, zcI, zcL, zcR, true_and, and_true, true_implies, false_implies, implies_true, not_true_eq_false, not_false_eq_true, and_self, Int.toNat_natCast, Nat.reduceAdd, Nat.reduceLeDiff, Nat.reduceLT, forall_eq', Option.some.injEq, zarR, zarI, zarL, zle, zq0, zq1, zq2, zq3, zq4, zq5, zq6, zq8, zq9, zq10, zq20, zq7, zq12, zq24, zq40, zq41, zq48, zq100, zq120, zq123, zq480, zq492, zq700, zq729, zq2187, zq2916, zq8748, ne_eq, Int.reduceEq, Int.reduceLT, Int.reduceLE, Int.reduceToNat, Int.reduceMul, Int.reduceAdd, Int.reduceNeg, gk2 hg, gr2_9 hg, gr2_10 hg, z1]
      apply last 1 (.inr q) h (fun _ _ _ => rfl) c
      intro h' f' c'
      dsimp only [sP, sV] at c'
      unfold pPs at c'
      rw [if_pos hw'.1] at c'
      exact K 1 h' f' ⟨c', rfl⟩
    · have hw' : ¬ (kd (h 1) n q = 1 ∧ wd (h 1) n q = kwc o2) := hw
      rw [if_neg hw'] at K
      simp only [e29_5, e29_8, e29_9, e29_12, e29_13, e29_14, e29_15, e29_18, e29_21, e29_22, e29_25, e29_26, e29_27, zs0, zsI, zsL, zsR, ztl1, ztl0, zc0, zcI, zcL, zcR, true_and, and_true, true_implies, false_implies, implies_true, not_true_eq_false, not_false_eq_true, and_self, Int.toNat_natCast, Nat.reduceAdd, Nat.reduceLeDiff, Nat.reduceLT, forall_eq', Option.some.injEq, zarR, zarI, zarL, zle, zq0, zq1, zq2, zq3, zq4, zq5, zq6, zq8, zq9, zq10, zq20, zq7, zq12, zq24, zq40, zq41, zq48, zq100, zq120, zq123, zq480, zq492, zq700, zq729, zq2187, zq2916, zq8748, ne_eq, Int.reduceEq, Int.reduceLT, Int.reduceLE, Int.reduceToNat, Int.reduceMul, Int.reduceAdd, Int.reduceNeg, gk2 hg, gr2_9 hg, gr2_10 hg, z1]
      apply c_isWord (d := d + 2) hg ht hn h1 c.2.2.2
      intro v hv
      rcases hv with ⟨rfl, hx⟩ | ⟨rfl, hx⟩
      · have hx' : kd (h 1) n q = 1 ∧ wd (h 1) n q = kwc o1 := hx
        rw [if_pos hx'] at K
        simp only [e29_30, e29_33, e29_34, e29_35, e29_36, e29_39, zs0, zsI, zsL, zsR, ztl1, ztl0, zc0, zcI, zcL, zcR, true_and, and_true, true_implies, false_implies, implies_true, not_true_eq_false, not_false_eq_true, and_self, Int.toNat_natCast, Nat.reduceAdd, Nat.reduceLeDiff, Nat.reduceLT, forall_eq', Option.some.injEq, zarR, zarI, zarL, zle, zq0, zq1, zq2, zq3, zq4, zq5, zq6, zq8, zq9, zq10, zq20, zq7, zq12, zq24, zq40, zq41, zq48, zq100, zq120, zq123, zq480, zq492, zq700, zq729, zq2187, zq2916, zq8748, ne_eq, Int.reduceEq, Int.reduceLT, Int.reduceLE, Int.reduceToNat, Int.reduceMul, Int.reduceAdd, Int.reduceNeg, gk2 hg, gr2_9 hg, gr2_10 hg]
        apply last 0 (.inr q) h (fun _ _ _ => rfl) c
        intro h' f' c'
        dsimp only [sP, sV] at c'
        unfold pPs at c'
        rw [if_pos hx'.1] at c'
        exact K 0 h' f' ⟨c', rfl⟩
      · have hx' : ¬ (kd (h 1) n q = 1 ∧ wd (h 1) n q = kwc o1) := hx
        rw [if_neg hx'] at K
        simp only [e29_30, e29_33, e29_34, e29_35, e29_36, e29_39, zs0, zsI, zsL, zsR, ztl1, ztl0, zc0, zcI, zcL, zcR, true_and, and_true, true_implies, false_implies, implies_true, not_true_eq_false, not_false_eq_true, and_self, Int.toNat_natCast, Nat.reduceAdd, Nat.reduceLeDiff, Nat.reduceLT, forall_eq', Option.some.injEq, zarR, zarI, zarL, zle, zq0, zq1, zq2, zq3, zq4, zq5, zq6, zq8, zq9, zq10, zq20, zq7, zq12, zq24, zq40, zq41, zq48, zq100, zq120, zq123, zq480, zq492, zq700, zq729, zq2187, zq2916, zq8748, ne_eq, Int.reduceEq, Int.reduceLT, Int.reduceLE, Int.reduceToNat, Int.reduceMul, Int.reduceAdd, Int.reduceNeg, gk2 hg, gr2_9 hg, gr2_10 hg, t6, c_fail hg z1]
        apply last 0 (.inl (1, (st (h 1) n q : Nat))) _ (fun c i z => by rw [zu, if_neg (by omega), zu, if_neg (by omega)]) (CS_die c (by decide))
        intro h' f' c'
        exact K 0 h' f' c'
end CW
