/-! a new record of a town -/
theorem zgn_1 {G : zG} {k n : Nat} : (zgn G k n).1 = G.1 + 1 := rfl
theorem zgu_1 {G : zG} {c i : Nat} {v : Option Nat} : (zgu G c i v).1 = G.1 := rfl
theorem zgu_k {G : zG} {c i : Nat} {v : Option Nat} : (zgu G c i v).2.1 = G.2.1 := rfl
theorem zgu_l {G : zG} {c i : Nat} {v : Option Nat} : (zgu G c i v).2.2.1 = G.2.2.1 := rfl
theorem zgn_k {G : zG} {k n c : Nat} : (zgn G k n).2.1 c = if c = G.1 then k else G.2.1 c := rfl
theorem zgn_l {G : zG} {k n c : Nat} : (zgn G k n).2.2.1 c = if c = G.1 then n else G.2.2.1 c := rfl
theorem zgn_r {G : zG} {k n c i : Nat} : (zgn G k n).2.2.2 c i = if c = G.1 then none else G.2.2.2 c i := rfl
theorem zgu_r {G : zG} {c i c' i' : Nat} {v : Option Nat} : (zgu G c i v).2.2.2 c' i' = if c' = c ∧ i' = i then v else G.2.2.2 c' i' := rfl
/-- one array of it -/
def al (G : zG) (v k n f : Nat) : zG := zgu (zgn G k n) v f (some G.1)
theorem al_1 {G : zG} {v k n f : Nat} : (al G v k n f).1 = G.1 + 1 := rfl
theorem al_k {G : zG} {v k n f c : Nat} : (al G v k n f).2.1 c = if c = G.1 then k else G.2.1 c := rfl
theorem al_l {G : zG} {v k n f c : Nat} : (al G v k n f).2.2.1 c = if c = G.1 then n else G.2.2.1 c := rfl
theorem al_r {G : zG} {v k n f c i : Nat} : (al G v k n f).2.2.2 c i = if c = v ∧ i = f then some G.1 else if c = G.1 then none else G.2.2.2 c i := rfl
theorem al_e {G : zG} {v k n f : Nat} {x : Option Nat} (h : x = some G.1) : zgu (zgn G k n) v f x = al G v k n f := by rw [h]; rfl
def al3 (G : zG) (v : Nat) : zG := al (al (al (al (al (al (al (al (al (al G v 10 3 6) v 10 3 7) v 10 3 8) v 10 3 9) v 10 4 10) v 10 4 11) v 10 4 12) v 10 4 13) v 13 4 14) v 11 7 15
def hl3 (h : zM) (v : Nat) : zM := fun c i => if v < c ∧ c ≤ v + 10 then 0 else if c = v ∧ i = 3 then -1 else h c i
section MI
variable {d : Nat} {Q : zQ} {G : zG} {h : zM} {v : Nat}
theorem m_init (hG : G.1 = v + 1) (hk : G.2.1 v = 8) : zRunD ztb zmt' (d + 1) 110 [zR (some v)] G h Q ↔ Q none (al3 G v) (hl3 h v) := by
  rw [r110]
  have n1 : ¬ v = v + 1 := by omega
  have n2 : ¬ v = v + 2 := by omega
  have n3 : ¬ v = v + 3 := by omega
  have n4 : ¬ v = v + 4 := by omega
  have n5 : ¬ v = v + 5 := by omega
  have n6 : ¬ v = v + 6 := by omega
  have n7 : ¬ v = v + 7 := by omega
  have n8 : ¬ v = v + 8 := by omega
  have n9 : ¬ v = v + 9 := by omega
  have n10 : ¬ v = v + 10 := by omega
  have eh : zhn (zhn (zhn (zhn (zhn (zhn (zhn (zhn (zhn (zhn (zu h v 3 (-1)) (v + 1)) (v + 2)) (v + 3)) (v + 4)) (v + 5)) (v + 6)) (v + 7)) (v + 8)) (v + 9)) (v + 10) = hl3 h v := by
    funext c i
    unfold hl3 zhn zu
    by_cases z : v < c ∧ c ≤ v + 10
    · rw [if_pos z]
      by_cases z1 : c = v + 10
      · rw [if_pos z1]
      · rw [if_neg z1]
        by_cases z2 : c = v + 9
        · rw [if_pos z2]
        · rw [if_neg z2]
          by_cases z3 : c = v + 8
          · rw [if_pos z3]
          · rw [if_neg z3]
            by_cases z4 : c = v + 7
            · rw [if_pos z4]
            · rw [if_neg z4]
              by_cases z5 : c = v + 6
              · rw [if_pos z5]
              · rw [if_neg z5]
                by_cases z6 : c = v + 5
                · rw [if_pos z6]
                · rw [if_neg z6]
                  by_cases z7 : c = v + 4
                  · rw [if_pos z7]
                  · rw [if_neg z7]
                    by_cases z8 : c = v + 3
                    · rw [if_pos z8]
                    · rw [if_neg z8]
                      by_cases z9 : c = v + 2
                      · rw [if_pos z9]
                      · rw [if_neg z9, if_pos (by omega)]
    · rw [if_neg z, if_neg (by omega), if_neg (by omega), if_neg (by omega), if_neg (by omega), if_neg (by omega), if_neg (by omega), if_neg (by omega), if_neg (by omega), if_neg (by omega), if_neg (by omega)]
  have e0 : ∀ (G : zG) (a b c : Nat) (x : Option Nat), zgu (zgn G a b) v c x = zgu (zgn G a b) v c x := fun _ _ _ _ _ => rfl
  have A : ∀ k n f, zgu (zgn G k n) v f (some (v + 1)) = al G v k n f := fun k n f => al_e (by rw [hG])
  have st : ∀ (G : zG) (j k n f : Nat), G.1 = j → zgu (zgn G k n) v f (some j) = al G v k n f := fun G j k n f e => al_e (by rw [e])
  simp only [e110_0, e110_1, e110_4, e110_5, e110_6, e110_9, e110_10, e110_11, e110_13, e110_16, e110_17, e110_18, e110_20, e110_23, e110_24, e110_25, e110_27, e110_30, e110_31, e110_32, e110_34, e110_37, e110_38, e110_39, e110_41, e110_44, e110_45, e110_46, e110_48, e110_51, e110_52, e110_53, e110_55, e110_58, e110_59, e110_60, e110_62, e110_65, e110_66, e110_67, e110_69, e110_72, e110_73, e110_75, e110_77, e110_80, zs0, zsI, zsL, zsR, ztl1, ztl0, zc0, zcI, zcL, zcR, true_and, and_true, true_implies, false_implies, implies_true, not_true_eq_false, not_false_eq_true, and_self, Int.toNat_natCast, Nat.reduceAdd, Nat.reduceLeDiff, Nat.reduceLT, forall_eq', Option.some.injEq, zarR, zarI, zarL, zle, zq0, zq1, zq2, zq3, zq4, zq5, zq6, zq8, zq9, zq10, zq20, zq7, zq12, zq24, zq40, zq41, zq48, zq100, zq120, zq123, zq480, zq492, zq700, zq729, zq2187, zq2916, zq8748, ne_eq, Int.reduceEq, Int.reduceLT, Int.reduceLE, Int.reduceToNat, Int.reduceMul, Int.reduceAdd, Int.reduceNeg, zgn_1, zgu_1, zgu_k, zgn_k, hG, hk, n1, n2, n3, n4, n5, n6, n7, n8, n9, n10, if_false, Nat.add_assoc]
  rw [eh]
  have g1 : (zgu (zgn G 10 3) v 6 (some (v + 1))) = al G v 10 3 6 := A 10 3 6
  rw [g1, st _ (v + 2) 10 3 7 (by rw [al_1, hG])]
  rw [st _ (v + 3) 10 3 8 (by rw [al_1, al_1, hG])]
  rw [st _ (v + 4) 10 3 9 (by rw [al_1, al_1, al_1, hG])]
  rw [st _ (v + 5) 10 4 10 (by rw [al_1, al_1, al_1, al_1, hG])]
  rw [st _ (v + 6) 10 4 11 (by rw [al_1, al_1, al_1, al_1, al_1, hG])]
  rw [st _ (v + 7) 10 4 12 (by rw [al_1, al_1, al_1, al_1, al_1, al_1, hG])]
  rw [st _ (v + 8) 10 4 13 (by rw [al_1, al_1, al_1, al_1, al_1, al_1, al_1, hG])]
  rw [st _ (v + 9) 13 4 14 (by rw [al_1, al_1, al_1, al_1, al_1, al_1, al_1, al_1, hG])]
  rw [st _ (v + 10) 11 7 15 (by rw [al_1, al_1, al_1, al_1, al_1, al_1, al_1, al_1, al_1, hG])]
  rfl
theorem al3_lo (hG : G.1 = v + 1) : (al3 G v).1 = v + 11 ∧ (∀ c, c ≤ v → (al3 G v).2.1 c = G.2.1 c ∧ (al3 G v).2.2.1 c = G.2.2.1 c) ∧ (∀ c i, c < v → (al3 G v).2.2.2 c i = G.2.2.2 c i) := by
  refine ⟨by unfold al3; simp only [al_1, hG], fun c hc => ?_, fun c i hc => ?_⟩
  · unfold al3
    simp only [al_k, al_l, al_1, hG]
    constructor
    · rw [if_neg (by omega), if_neg (by omega), if_neg (by omega), if_neg (by omega), if_neg (by omega), if_neg (by omega), if_neg (by omega), if_neg (by omega), if_neg (by omega), if_neg (by omega)]
    · rw [if_neg (by omega), if_neg (by omega), if_neg (by omega), if_neg (by omega), if_neg (by omega), if_neg (by omega), if_neg (by omega), if_neg (by omega), if_neg (by omega), if_neg (by omega)]
  · unfold al3
    simp only [al_r, al_1, hG]
    rw [if_neg (by omega), if_neg (by omega), if_neg (by omega), if_neg (by omega), if_neg (by omega), if_neg (by omega), if_neg (by omega), if_neg (by omega), if_neg (by omega), if_neg (by omega), if_neg (by omega), if_neg (by omega), if_neg (by omega), if_neg (by omega), if_neg (by omega), if_neg (by omega), if_neg (by omega), if_neg (by omega), if_neg (by omega), if_neg (by omega)]
/-- the layout of the new record -/
abbrev gN (G : zG) (u : Nat) : Prop := G.2.1 u = 8 ∧ G.2.2.2 u 6 = some (u + 1) ∧ G.2.2.2 u 7 = some (u + 2) ∧ G.2.2.2 u 8 = some (u + 3) ∧ G.2.2.2 u 9 = some (u + 4) ∧ G.2.2.2 u 10 = some (u + 5) ∧ G.2.2.2 u 11 = some (u + 6) ∧ G.2.2.2 u 12 = some (u + 7) ∧ G.2.2.2 u 13 = some (u + 8) ∧ G.2.2.2 u 14 = some (u + 9) ∧ G.2.2.2 u 15 = some (u + 10) ∧ G.2.1 (u + 1) = 10 ∧ G.2.1 (u + 2) = 10 ∧ G.2.1 (u + 3) = 10 ∧ G.2.1 (u + 4) = 10 ∧ G.2.1 (u + 5) = 10 ∧ G.2.1 (u + 6) = 10 ∧ G.2.1 (u + 7) = 10 ∧ G.2.1 (u + 8) = 10 ∧ G.2.1 (u + 9) = 13 ∧ G.2.1 (u + 10) = 11 ∧ G.2.2.1 (u + 1) = 3 ∧ G.2.2.1 (u + 2) = 3 ∧ G.2.2.1 (u + 3) = 3 ∧ G.2.2.1 (u + 4) = 3 ∧ G.2.2.1 (u + 5) = 4 ∧ G.2.2.1 (u + 6) = 4 ∧ G.2.2.1 (u + 7) = 4 ∧ G.2.2.1 (u + 8) = 4 ∧ G.2.2.1 (u + 9) = 4 ∧ G.2.2.1 (u + 10) = 7
theorem al3_n (hG : G.1 = v + 1) (hk : G.2.1 v = 8) : gN (al3 G v) v := by
  unfold al3
  have n1 : ¬ v = v + 1 := by omega
  have n2 : ¬ v = v + 2 := by omega
  have n3 : ¬ v = v + 3 := by omega
  have n4 : ¬ v = v + 4 := by omega
  have n5 : ¬ v = v + 5 := by omega
  have n6 : ¬ v = v + 6 := by omega
  have n7 : ¬ v = v + 7 := by omega
  have n8 : ¬ v = v + 8 := by omega
  have n9 : ¬ v = v + 9 := by omega
  have n10 : ¬ v = v + 10 := by omega
  simp only [gN, al_r, al_k, al_l, al_1, hG, hk, n1, n2, n3, n4, n5, n6, n7, n8, n9, n10, Nat.add_assoc, Nat.reduceAdd, Nat.add_left_cancel_iff, Nat.reduceEqDiff, if_true, if_false, true_and, and_true, and_false, and_self]
end MI
