theorem idx_b {a t nb b : Nat} (ha : a < t) (hb : b < nb) : a * nb + b < t * nb := by
  have h1 : (a + 1) * nb ≤ t * nb := Nat.mul_le_mul ha (Nat.le_refl _)
  have h2 : (a + 1) * nb = a * nb + nb := Nat.succ_mul _ _
  omega
theorem zxl_neg {x : Int} (h : -9223372036854775808 ≤ x ∧ x ≤ 9223372036854775807) : zxl x 100 < 0 ↔ x < 0 := by
  have h1 : ∀ z : Int64, z.toInt < 0 ↔ z.toBitVec.msb = true := by
    intro z
    rw [show z.toInt = z.toBitVec.toInt from rfl, BitVec.msb_eq_toInt]
    simp
  have e1 : (Int64.ofInt x).toInt = x := by
    rw [Int64.toInt_ofInt]
    exact wl_id h
  have e2 : (Int64.ofInt 100).toBitVec.msb = false := by decide
  unfold zxl
  rw [h1, Int64.toBitVec_xor, BitVec.msb_xor, e2, Bool.xor_false, ← h1, e1]
section PL
variable {d : Nat} {Q : zQ} {G : zG} {h : zM} {T : aTn} {ac : Nat → Nat}
theorem s_fdiv {x : Int} (hx : -9223372036854775808 ≤ x ∧ x ≤ 9223372036854775807) : zRunD ztb zmt' (d + 1) 214 [zL x, zL 100] G h Q ↔ Q (some (zL (x / 100))) G h := by
  rw [r214]
  have q0 := zxl_neg hx
  by_cases c : x < 0
  · have c1 : ¬ (0 : Int) ≤ zxl x 100 := by omega
    have e1 : x.tdiv 100 = -((-x) / 100) := by
      have b2 : (-(-x)).tdiv 100 = -((-x).tdiv 100) := Int.neg_tdiv (-x) 100
      rw [Int.neg_neg] at b2
      rw [b2, Int.tdiv_eq_ediv_of_nonneg (by omega)]
    have e2 : wl (-((-x) / 100)) = -((-x) / 100) := wl_id (by omega)
    have e3 : wl (-((-x) / 100) * 100) = -((-x) / 100) * 100 := wl_id (by omega)
    by_cases c2 : -((-x) / 100) * 100 = x
    · simp only [e214_0, e214_1, e214_2, e214_3, e214_5, e214_6, e214_7, e214_8, e214_9, e214_10, e214_13, e214_15, e214_16, e214_17, e214_18, e214_19, e214_22, e214_24, e214_25, e214_26, e214_27, e214_29, zs0, zsI, zsL, zsR, ztl1, ztl0, zc0, zcI, zcL, zcR, true_and, and_true, true_implies, false_implies, implies_true, not_true_eq_false, not_false_eq_true, and_self, Int.toNat_natCast, Nat.reduceAdd, Nat.reduceLeDiff, Nat.reduceLT, forall_eq', Option.some.injEq, zarR, zarI, zarL, zle, zq0, zq1, zq2, zq3, zq4, zq5, zq6, zq8, zq9, zq10, zq20, zq7, zq12, zq24, zq40, zq41, zq48, zq100, zq120, zq123, zq480, zq492, zq700, zq729, zq2187, zq2916, zq8748, ne_eq, Int.reduceEq, Int.reduceLT, Int.reduceLE, Int.reduceToNat, Int.reduceMul, Int.reduceAdd, Int.reduceNeg, e1, e2, e3, zlc_ge, zlc_eq, c1]
      simp only [c2, true_implies, not_true_eq_false, false_implies, and_true]
      rw [show -((-x) / 100) = x / 100 by omega]
    · have e4 : wl (-((-x) / 100) - 1) = x / 100 := by
        rw [wl_id (by omega)]
        omega
      simp only [e214_0, e214_1, e214_2, e214_3, e214_5, e214_6, e214_7, e214_8, e214_9, e214_10, e214_13, e214_15, e214_16, e214_17, e214_18, e214_19, e214_22, e214_24, e214_25, e214_26, e214_27, e214_29, zs0, zsI, zsL, zsR, ztl1, ztl0, zc0, zcI, zcL, zcR, true_and, and_true, true_implies, false_implies, implies_true, not_true_eq_false, not_false_eq_true, and_self, Int.toNat_natCast, Nat.reduceAdd, Nat.reduceLeDiff, Nat.reduceLT, forall_eq', Option.some.injEq, zarR, zarI, zarL, zle, zq0, zq1, zq2, zq3, zq4, zq5, zq6, zq8, zq9, zq10, zq20, zq7, zq12, zq24, zq40, zq41, zq48, zq100, zq120, zq123, zq480, zq492, zq700, zq729, zq2187, zq2916, zq8748, ne_eq, Int.reduceEq, Int.reduceLT, Int.reduceLE, Int.reduceToNat, Int.reduceMul, Int.reduceAdd, Int.reduceNeg, e1, e2, e3, zlc_ge, zlc_eq, c1, e4]
      simp only [c2, false_implies, not_false_eq_true, true_implies, true_and]
  · have c1 : (0 : Int) ≤ zxl x 100 := by omega
    have e1 : x.tdiv 100 = x / 100 := Int.tdiv_eq_ediv_of_nonneg (by omega)
    have e2 : wl (x / 100) = x / 100 := wl_id (by omega)
    simp only [e214_0, e214_1, e214_2, e214_3, e214_5, e214_6, e214_7, e214_8, e214_9, e214_10, e214_13, e214_15, e214_16, e214_17, e214_18, e214_19, e214_22, e214_24, e214_25, e214_26, e214_27, e214_29, zs0, zsI, zsL, zsR, ztl1, ztl0, zc0, zcI, zcL, zcR, true_and, and_true, true_implies, false_implies, implies_true, not_true_eq_false, not_false_eq_true, and_self, Int.toNat_natCast, Nat.reduceAdd, Nat.reduceLeDiff, Nat.reduceLT, forall_eq', Option.some.injEq, zarR, zarI, zarL, zle, zq0, zq1, zq2, zq3, zq4, zq5, zq6, zq8, zq9, zq10, zq20, zq7, zq12, zq24, zq40, zq41, zq48, zq100, zq120, zq123, zq480, zq492, zq700, zq729, zq2187, zq2916, zq8748, ne_eq, Int.reduceEq, Int.reduceLT, Int.reduceLE, Int.reduceToNat, Int.reduceMul, Int.reduceAdd, Int.reduceNeg, e1, e2, zlc_ge, c1]
theorem c_pull (hg : gS G) (hT : kT h 49 T) (hw : wT T) (hc : acOk T ac) (hR : sR h T ac) {all bs : Nat} {en : Int} {w : Nat → Nat → Int} (hall : all < tg ac (nB T)) (hbs : bs + tg ac (nB T) * nB T ≤ 2187) (hW : ∀ a b, a < tg ac (nB T) → b < nB T → h 73 (bs + a * nB T + b) = w a b) (bw : ∀ a b, -100000000000 ≤ w a b ∧ w a b ≤ 100000000000) (K : ∀ v : Int, (v = pull ac (nB T) w all ∨ ¬ en = -9223372036854775808 ∧ en ≤ v ∧ en ≤ pull ac (nB T) w all) → Q (some (zL v)) G h) : zRunD ztb zmt' (d + 2) 42 [zR (some 46), zI all, zI bs, zL en] G h Q := by
  rw [r42]
  have hB := hw.1
  have tb := tg_b hw hc
  have e1 := hT.1
  have gbb : ∀ b a, 0 ≤ gB ac (nB T) w all b a ∧ gB ac (nB T) w all b a ≤ 200000000000 := by
    intro b a
    induction a with
    | zero => exact ⟨Int.le_refl 0, (by decide : (0 : Int) ≤ 200000000000)⟩
    | succ a ih =>
      have q1 := bw (all - aAct ac (nB T) all b * sd ac (nB T) b + a * sd ac (nB T) b) b
      have q2 := bw all b
      unfold gB
      omega
  have lp : ∀ j b (l8 l9 l10 l11 l12 l13 : Option zV), b + j = nB T → zE 42 (d + 1) Q 6 [some (zR (some 46)), some (zI all), some (zI bs), some (zL en), none, some (zL (pl ac (nB T) w all b)), none, some (zI b), l8, l9, l10, l11, l12, l13] [] G h (0, 0) := by
    intro j
    induction j with
    | zero =>
      intro b l8 l9 l10 l11 l12 l13 hb
      have hb' : b = nB T := by omega
      subst hb'
      rw [e42_6]
      simp only [e42_0, e42_1, e42_3, e42_4, e42_8, e42_9, e42_12, e42_15, e42_18, e42_19, e42_20, e42_21, e42_23, e42_26, e42_27, e42_30, e42_32, e42_33, e42_34, e42_35, e42_37, e42_38, e42_41, e42_42, e42_43, e42_44, e42_47, e42_50, e42_51, e42_52, e42_54, e42_55, e42_56, e42_58, e42_59, e42_63, e42_64, e42_67, e42_69, e42_70, e42_73, e42_74, e42_77, e42_78, e42_80, e42_82, e42_83, e42_86, e42_88, e42_89, e42_90, e42_91, e42_92, e42_95, e42_98, e42_99, e42_100, e42_102, e42_103, e42_104, e42_106, e42_107, e42_109, e42_111, e42_113, e42_116, e42_118, e42_121, e42_124, e42_125, e42_128, e42_129, e42_132, e42_134, e42_135, e42_136, e42_139, e42_141, e42_142, e42_145, e42_148, e42_150, zs0, zsI, zsL, zsR, ztl1, ztl0, zc0, zcI, zcL, zcR, true_and, and_true, true_implies, false_implies, implies_true, not_true_eq_false, not_false_eq_true, and_self, Int.toNat_natCast, Nat.reduceAdd, Nat.reduceLeDiff, Nat.reduceLT, forall_eq', Option.some.injEq, zarR, zarI, zarL, zle, zq0, zq1, zq2, zq3, zq4, zq5, zq6, zq8, zq9, zq10, zq20, zq7, zq12, zq24, zq40, zq41, zq48, zq100, zq120, zq123, zq480, zq492, zq700, zq729, zq2187, zq2916, zq8748, ne_eq, Int.reduceEq, Int.reduceLT, Int.reduceLE, Int.reduceToNat, Int.reduceMul, Int.reduceAdd, Int.reduceNeg, gk46 hg, gr46_0 hg, gr46_1 hg, gr46_2 hg, gr46_3 hg, gr46_4 hg, gr46_6 hg, gr46_7 hg, gr46_8 hg, gr46_9 hg, gr46_10 hg, gr46_11 hg, gr46_12 hg, gr46_13 hg, gk49 hg, gr49_0 hg, gr49_1 hg, gr49_2 hg, gr49_3 hg, gr49_4 hg, gr49_5 hg, gr49_6 hg, gr49_7 hg, gr49_8 hg, e1, Int.le_refl]
      exact K _ (Or.inl rfl)
    | succ j ih =>
      intro b l8 l9 l10 l11 l12 l13 hb
      have hbB : b < nB T := by omega
      have c : ¬ (nB T : Int) ≤ b := by omega
      have b3 : (b : Int) < 3 := by omega
      have ea := hR.1 b hbB
      have es := hR.2 b hbB
      have s1 := sd_b hw hc b
      have s2 := hc b
      have s3 := nA_b hw
      have dv := fun a (ha : a < ac b) => dev_b hw hc hbB ha hall
      have d0 := dv 0 (by omega)
      have hi := idx_b hall hbB
      have q1 : ∀ Q' : zQ, zRunD ztb zmt' (d + 1) 38 [zR (some 46), zI all, zI b] G h Q' ↔ Q' (some (zI (aAct ac (nB T) all b : Nat))) G h := fun Q' => c_ract hg hw hc hR hbB (by omega)
      have m1 : ((aAct ac (nB T) all b : Nat) : Int) * ((sd ac (nB T) b : Nat) : Int) = ((aAct ac (nB T) all b * sd ac (nB T) b : Nat) : Int) := (Int.natCast_mul _ _).symm
      have m2 : ((all : Nat) : Int) * (nB T : Int) = ((all * nB T : Nat) : Int) := (Int.natCast_mul _ _).symm
      have w0 : ((bs + all * nB T + b : Nat) : Int) < 2187 := by omega
      have hnow := hW all b hall hbB
      have inn : ∀ ja a (l12 l13 : Option zV), a + ja = ac b → zE 42 (d + 1) Q 61 [some (zR (some 46)), some (zI all), some (zI bs), some (zL en), none, some (zL (max (pl ac (nB T) w all b) (gB ac (nB T) w all b a))), none, some (zI b), some (zI ((all - aAct ac (nB T) all b * sd ac (nB T) b : Nat) : Int)), some (zL (w all b)), none, some (zI a), l12, l13] [] G h (0, 0) := by
        intro ja
        induction ja with
        | zero =>
          intro a l12 l13 ha
          have ha' : a = ac b := by omega
          have c2 : ((ac b : Nat) : Int) ≤ a := by omega
          have hmx : max (pl ac (nB T) w all b) (gB ac (nB T) w all b a) = pl ac (nB T) w all (b + 1) := by
            rw [ha']
            rfl
          rw [hmx, e42_61]
          have go := ih (b + 1) (some (zI ((all - aAct ac (nB T) all b * sd ac (nB T) b : Nat) : Int))) (some (zL (w all b))) none (some (zI a)) l12 l13 (by omega)
          by_cases c3 : en = -9223372036854775808
          · subst c3
            simp only [e42_0, e42_1, e42_3, e42_4, e42_8, e42_9, e42_12, e42_15, e42_18, e42_19, e42_20, e42_21, e42_23, e42_26, e42_27, e42_30, e42_32, e42_33, e42_34, e42_35, e42_37, e42_38, e42_41, e42_42, e42_43, e42_44, e42_47, e42_50, e42_51, e42_52, e42_54, e42_55, e42_56, e42_58, e42_59, e42_63, e42_64, e42_67, e42_69, e42_70, e42_73, e42_74, e42_77, e42_78, e42_80, e42_82, e42_83, e42_86, e42_88, e42_89, e42_90, e42_91, e42_92, e42_95, e42_98, e42_99, e42_100, e42_102, e42_103, e42_104, e42_106, e42_107, e42_109, e42_111, e42_113, e42_116, e42_118, e42_121, e42_124, e42_125, e42_128, e42_129, e42_132, e42_134, e42_135, e42_136, e42_139, e42_141, e42_142, e42_145, e42_148, e42_150, zs0, zsI, zsL, zsR, ztl1, ztl0, zc0, zcI, zcL, zcR, true_and, and_true, true_implies, false_implies, implies_true, not_true_eq_false, not_false_eq_true, and_self, Int.toNat_natCast, Nat.reduceAdd, Nat.reduceLeDiff, Nat.reduceLT, forall_eq', Option.some.injEq, zarR, zarI, zarL, zle, zq0, zq1, zq2, zq3, zq4, zq5, zq6, zq8, zq9, zq10, zq20, zq7, zq12, zq24, zq40, zq41, zq48, zq100, zq120, zq123, zq480, zq492, zq700, zq729, zq2187, zq2916, zq8748, ne_eq, Int.reduceEq, Int.reduceLT, Int.reduceLE, Int.reduceToNat, Int.reduceMul, Int.reduceAdd, Int.reduceNeg, gk46 hg, gr46_0 hg, gr46_1 hg, gr46_2 hg, gr46_3 hg, gr46_4 hg, gr46_6 hg, gr46_7 hg, gr46_8 hg, gr46_9 hg, gr46_10 hg, gr46_11 hg, gr46_12 hg, gr46_13 hg, gk69 hg, gl69 hg, b3, ea, c2, zlc_eq, wr_s (show b < 2147483647 by omega)]
            exact go
          · by_cases c4 : pl ac (nB T) w all (b + 1) < en
            · simp only [e42_0, e42_1, e42_3, e42_4, e42_8, e42_9, e42_12, e42_15, e42_18, e42_19, e42_20, e42_21, e42_23, e42_26, e42_27, e42_30, e42_32, e42_33, e42_34, e42_35, e42_37, e42_38, e42_41, e42_42, e42_43, e42_44, e42_47, e42_50, e42_51, e42_52, e42_54, e42_55, e42_56, e42_58, e42_59, e42_63, e42_64, e42_67, e42_69, e42_70, e42_73, e42_74, e42_77, e42_78, e42_80, e42_82, e42_83, e42_86, e42_88, e42_89, e42_90, e42_91, e42_92, e42_95, e42_98, e42_99, e42_100, e42_102, e42_103, e42_104, e42_106, e42_107, e42_109, e42_111, e42_113, e42_116, e42_118, e42_121, e42_124, e42_125, e42_128, e42_129, e42_132, e42_134, e42_135, e42_136, e42_139, e42_141, e42_142, e42_145, e42_148, e42_150, zs0, zsI, zsL, zsR, ztl1, ztl0, zc0, zcI, zcL, zcR, true_and, and_true, true_implies, false_implies, implies_true, not_true_eq_false, not_false_eq_true, and_self, Int.toNat_natCast, Nat.reduceAdd, Nat.reduceLeDiff, Nat.reduceLT, forall_eq', Option.some.injEq, zarR, zarI, zarL, zle, zq0, zq1, zq2, zq3, zq4, zq5, zq6, zq8, zq9, zq10, zq20, zq7, zq12, zq24, zq40, zq41, zq48, zq100, zq120, zq123, zq480, zq492, zq700, zq729, zq2187, zq2916, zq8748, ne_eq, Int.reduceEq, Int.reduceLT, Int.reduceLE, Int.reduceToNat, Int.reduceMul, Int.reduceAdd, Int.reduceNeg, gk46 hg, gr46_0 hg, gr46_1 hg, gr46_2 hg, gr46_3 hg, gr46_4 hg, gr46_6 hg, gr46_7 hg, gr46_8 hg, gr46_9 hg, gr46_10 hg, gr46_11 hg, gr46_12 hg, gr46_13 hg, gk69 hg, gl69 hg, b3, ea, c2, zlc_eq, zlc_lt, c3, c4, wr_s (show b < 2147483647 by omega)]
              exact go
            · simp only [e42_0, e42_1, e42_3, e42_4, e42_8, e42_9, e42_12, e42_15, e42_18, e42_19, e42_20, e42_21, e42_23, e42_26, e42_27, e42_30, e42_32, e42_33, e42_34, e42_35, e42_37, e42_38, e42_41, e42_42, e42_43, e42_44, e42_47, e42_50, e42_51, e42_52, e42_54, e42_55, e42_56, e42_58, e42_59, e42_63, e42_64, e42_67, e42_69, e42_70, e42_73, e42_74, e42_77, e42_78, e42_80, e42_82, e42_83, e42_86, e42_88, e42_89, e42_90, e42_91, e42_92, e42_95, e42_98, e42_99, e42_100, e42_102, e42_103, e42_104, e42_106, e42_107, e42_109, e42_111, e42_113, e42_116, e42_118, e42_121, e42_124, e42_125, e42_128, e42_129, e42_132, e42_134, e42_135, e42_136, e42_139, e42_141, e42_142, e42_145, e42_148, e42_150, zs0, zsI, zsL, zsR, ztl1, ztl0, zc0, zcI, zcL, zcR, true_and, and_true, true_implies, false_implies, implies_true, not_true_eq_false, not_false_eq_true, and_self, Int.toNat_natCast, Nat.reduceAdd, Nat.reduceLeDiff, Nat.reduceLT, forall_eq', Option.some.injEq, zarR, zarI, zarL, zle, zq0, zq1, zq2, zq3, zq4, zq5, zq6, zq8, zq9, zq10, zq20, zq7, zq12, zq24, zq40, zq41, zq48, zq100, zq120, zq123, zq480, zq492, zq700, zq729, zq2187, zq2916, zq8748, ne_eq, Int.reduceEq, Int.reduceLT, Int.reduceLE, Int.reduceToNat, Int.reduceMul, Int.reduceAdd, Int.reduceNeg, gk46 hg, gr46_0 hg, gr46_1 hg, gr46_2 hg, gr46_3 hg, gr46_4 hg, gr46_6 hg, gr46_7 hg, gr46_8 hg, gr46_9 hg, gr46_10 hg, gr46_11 hg, gr46_12 hg, gr46_13 hg, gk69 hg, gl69 hg, b3, ea, c2, zlc_eq, zlc_lt, c3, c4]
              apply K
              right
              have mo := pl_mono (ac := ac) (nb := nB T) (w := w) all (b + 1) j
              have en2 : b + 1 + j = nB T := by omega
              rw [en2] at mo
              refine ⟨c3, by omega, ?_⟩
              unfold pull
              omega
        | succ ja iha =>
          intro a l12 l13 ha
          have c2 : ¬ ((ac b : Nat) : Int) ≤ a := by omega
          have dva := dv a (by omega)
          have hidx := idx_b dva.1 hbB
          have hval := hW _ b dva.1 hbB
          have as_ : a * sd ac (nB T) b ≤ 9 * 81 := Nat.mul_le_mul (by omega) s1.2
          have m3 : ((a : Nat) : Int) * ((sd ac (nB T) b : Nat) : Int) = ((a * sd ac (nB T) b : Nat) : Int) := (Int.natCast_mul _ _).symm
          have m4 : ((all - aAct ac (nB T) all b * sd ac (nB T) b + a * sd ac (nB T) b : Nat) : Int) * (nB T : Int) = (((all - aAct ac (nB T) all b * sd ac (nB T) b + a * sd ac (nB T) b) * nB T : Nat) : Int) := (Int.natCast_mul _ _).symm
          have bwa := bw (all - aAct ac (nB T) all b * sd ac (nB T) b + a * sd ac (nB T) b) b
          have bwn := bw all b
          have hst : max (max (pl ac (nB T) w all b) (gB ac (nB T) w all b a)) (w (all - aAct ac (nB T) all b * sd ac (nB T) b + a * sd ac (nB T) b) b - w all b) = max (pl ac (nB T) w all b) (gB ac (nB T) w all b (a + 1)) := by
            rw [gB]
            omega
          have go := iha (a + 1) (some (zL (w (all - aAct ac (nB T) all b * sd ac (nB T) b + a * sd ac (nB T) b) b - w all b))) none (by omega)
          rw [← hst] at go
          have wx := wl_id (z := w (all - aAct ac (nB T) all b * sd ac (nB T) b + a * sd ac (nB T) b) b - w all b) (by omega)
          clear hst
          generalize all - aAct ac (nB T) all b * sd ac (nB T) b = fi at *
          generalize hAS : a * sd ac (nB T) b = AS at *
          generalize hPR : (fi + AS) * nB T = PR at *
          have w1 : ((bs + PR + b : Nat) : Int) < 2187 := by omega
          rw [e42_61]
          simp only [e42_0, e42_1, e42_3, e42_4, e42_8, e42_9, e42_12, e42_15, e42_18, e42_19, e42_20, e42_21, e42_23, e42_26, e42_27, e42_30, e42_32, e42_33, e42_34, e42_35, e42_37, e42_38, e42_41, e42_42, e42_43, e42_44, e42_47, e42_50, e42_51, e42_52, e42_54, e42_55, e42_56, e42_58, e42_59, e42_63, e42_64, e42_67, e42_69, e42_70, e42_73, e42_74, e42_77, e42_78, e42_80, e42_82, e42_83, e42_86, e42_88, e42_89, e42_90, e42_91, e42_92, e42_95, e42_98, e42_99, e42_100, e42_102, e42_103, e42_104, e42_106, e42_107, e42_109, e42_111, e42_113, e42_116, e42_118, e42_121, e42_124, e42_125, e42_128, e42_129, e42_132, e42_134, e42_135, e42_136, e42_139, e42_141, e42_142, e42_145, e42_148, e42_150, zs0, zsI, zsL, zsR, ztl1, ztl0, zc0, zcI, zcL, zcR, true_and, and_true, true_implies, false_implies, implies_true, not_true_eq_false, not_false_eq_true, and_self, Int.toNat_natCast, Nat.reduceAdd, Nat.reduceLeDiff, Nat.reduceLT, forall_eq', Option.some.injEq, zarR, zarI, zarL, zle, zq0, zq1, zq2, zq3, zq4, zq5, zq6, zq8, zq9, zq10, zq20, zq7, zq12, zq24, zq40, zq41, zq48, zq100, zq120, zq123, zq480, zq492, zq700, zq729, zq2187, zq2916, zq8748, ne_eq, Int.reduceEq, Int.reduceLT, Int.reduceLE, Int.reduceToNat, Int.reduceMul, Int.reduceAdd, Int.reduceNeg, gk46 hg, gr46_0 hg, gr46_1 hg, gr46_2 hg, gr46_3 hg, gr46_4 hg, gr46_6 hg, gr46_7 hg, gr46_8 hg, gr46_9 hg, gr46_10 hg, gr46_11 hg, gr46_12 hg, gr46_13 hg, gk49 hg, gr49_0 hg, gr49_1 hg, gr49_2 hg, gr49_3 hg, gr49_4 hg, gr49_5 hg, gr49_6 hg, gr49_7 hg, gr49_8 hg, gk69 hg, gl69 hg, gk70 hg, gl70 hg, gk73 hg, gl73 hg, b3, ea, es, e1, c2, m3, wrN (z := (AS : Int)) (m := AS) rfl (by omega), wrN (z := (fi : Int) + (AS : Int)) (m := fi + AS) (by omega) (by omega), m4, wrN (z := (PR : Int)) (m := PR) rfl (by omega), wrN (z := (bs : Int) + (PR : Int)) (m := bs + PR) (by omega) (by omega), wrN (z := ((bs + PR : Nat) : Int) + (b : Int)) (m := bs + PR + b) (by omega) (by omega), w1, hval, wx, s_maxL, wr_s (show a < 2147483647 by omega)]
          exact go
      have i0 := fun l12 l13 => inn (ac b) 0 l12 l13 (by omega)
      have hm0 : max (pl ac (nB T) w all b) (gB ac (nB T) w all b 0) = pl ac (nB T) w all b := by
        have := pl_0 (ac := ac) (nb := nB T) (w := w) all b
        rw [gB]
        omega
      simp only [hm0, zq0] at i0
      have hfi : ((all - aAct ac (nB T) all b * sd ac (nB T) b : Nat) : Int) = (all : Int) - ((aAct ac (nB T) all b * sd ac (nB T) b : Nat) : Int) := by omega
      rw [hfi] at i0
      clear inn dv hfi hm0
      generalize hAS : aAct ac (nB T) all b * sd ac (nB T) b = AS at *
      generalize hPR : all * nB T = PR at *
      rw [e42_6]
      simp only [e42_0, e42_1, e42_3, e42_4, e42_8, e42_9, e42_12, e42_15, e42_18, e42_19, e42_20, e42_21, e42_23, e42_26, e42_27, e42_30, e42_32, e42_33, e42_34, e42_35, e42_37, e42_38, e42_41, e42_42, e42_43, e42_44, e42_47, e42_50, e42_51, e42_52, e42_54, e42_55, e42_56, e42_58, e42_59, e42_63, e42_64, e42_67, e42_69, e42_70, e42_73, e42_74, e42_77, e42_78, e42_80, e42_82, e42_83, e42_86, e42_88, e42_89, e42_90, e42_91, e42_92, e42_95, e42_98, e42_99, e42_100, e42_102, e42_103, e42_104, e42_106, e42_107, e42_109, e42_111, e42_113, e42_116, e42_118, e42_121, e42_124, e42_125, e42_128, e42_129, e42_132, e42_134, e42_135, e42_136, e42_139, e42_141, e42_142, e42_145, e42_148, e42_150, zs0, zsI, zsL, zsR, ztl1, ztl0, zc0, zcI, zcL, zcR, true_and, and_true, true_implies, false_implies, implies_true, not_true_eq_false, not_false_eq_true, and_self, Int.toNat_natCast, Nat.reduceAdd, Nat.reduceLeDiff, Nat.reduceLT, forall_eq', Option.some.injEq, zarR, zarI, zarL, zle, zq0, zq1, zq2, zq3, zq4, zq5, zq6, zq8, zq9, zq10, zq20, zq7, zq12, zq24, zq40, zq41, zq48, zq100, zq120, zq123, zq480, zq492, zq700, zq729, zq2187, zq2916, zq8748, ne_eq, Int.reduceEq, Int.reduceLT, Int.reduceLE, Int.reduceToNat, Int.reduceMul, Int.reduceAdd, Int.reduceNeg, gk46 hg, gr46_0 hg, gr46_1 hg, gr46_2 hg, gr46_3 hg, gr46_4 hg, gr46_6 hg, gr46_7 hg, gr46_8 hg, gr46_9 hg, gr46_10 hg, gr46_11 hg, gr46_12 hg, gr46_13 hg, gk49 hg, gr49_0 hg, gr49_1 hg, gr49_2 hg, gr49_3 hg, gr49_4 hg, gr49_5 hg, gr49_6 hg, gr49_7 hg, gr49_8 hg, gk69 hg, gl69 hg, gk70 hg, gl70 hg, gk73 hg, gl73 hg, b3, ea, es, e1, c, q1, m1, wrN (z := (AS : Int)) (m := AS) rfl (by omega), m2, wrN (z := (PR : Int)) (m := PR) rfl (by omega), wrN (z := (bs : Int) + (PR : Int)) (m := bs + PR) (by omega) (by omega), wrN (z := ((bs + PR : Nat) : Int) + (b : Int)) (m := bs + PR + b) (by omega) (by omega), w0, hnow, wr_id (z := (all : Int) - (AS : Int)) (by omega)]
      exact i0 _ _
  simp only [e42_0, e42_1, e42_3, e42_4, e42_8, e42_9, e42_12, e42_15, e42_18, e42_19, e42_20, e42_21, e42_23, e42_26, e42_27, e42_30, e42_32, e42_33, e42_34, e42_35, e42_37, e42_38, e42_41, e42_42, e42_43, e42_44, e42_47, e42_50, e42_51, e42_52, e42_54, e42_55, e42_56, e42_58, e42_59, e42_63, e42_64, e42_67, e42_69, e42_70, e42_73, e42_74, e42_77, e42_78, e42_80, e42_82, e42_83, e42_86, e42_88, e42_89, e42_90, e42_91, e42_92, e42_95, e42_98, e42_99, e42_100, e42_102, e42_103, e42_104, e42_106, e42_107, e42_109, e42_111, e42_113, e42_116, e42_118, e42_121, e42_124, e42_125, e42_128, e42_129, e42_132, e42_134, e42_135, e42_136, e42_139, e42_141, e42_142, e42_145, e42_148, e42_150, zs0, zsI, zsL, zsR, ztl1, ztl0, zc0, zcI, zcL, zcR, true_and, and_true, true_implies, false_implies, implies_true, not_true_eq_false, not_false_eq_true, and_self, Int.toNat_natCast, Nat.reduceAdd, Nat.reduceLeDiff, Nat.reduceLT, forall_eq', Option.some.injEq, zarR, zarI, zarL, zle, zq0, zq1, zq2, zq3, zq4, zq5, zq6, zq8, zq9, zq10, zq20, zq7, zq12, zq24, zq40, zq41, zq48, zq100, zq120, zq123, zq480, zq492, zq700, zq729, zq2187, zq2916, zq8748, ne_eq, Int.reduceEq, Int.reduceLT, Int.reduceLE, Int.reduceToNat, Int.reduceMul, Int.reduceAdd, Int.reduceNeg]
  exact lp (nB T) 0 _ _ _ _ _ _ (by omega)
end PL
