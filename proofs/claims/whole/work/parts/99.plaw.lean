/-! the law's loop -/
section PLAW
variable {d L : Nat} {f : Nat → Int} {Q : zQ} {G : zG} {h : zM} {i k1 k2 : Nat} {l5 l6 : Option zV}
theorem law_0 (hI : INV G h) (hi : i + 6 ≤ L) (hL : L ≤ 3072) (b1 : k1 + 12 ≤ 601024) (b2 : k2 + 61 ≤ 7293034) (K : ∀ (G' : zG) (h' : zM) (k1' k2' : Nat) (l5 l6 : Option zV), INV G' h' → k1' ≤ k1 + 12 → k2' ≤ k2 + 61 → zLw (d + 16) (1, L, f) Q 1351 [some (zT 1000), some (zR (some 0)), some (zR (some 91)), some (zR (some 120)), some (zI i), l5, l6] [] G' h' (k1', k2')) : zLw (d + 16) (1, L, f) Q 188 [some (zT 1000), some (zR (some 0)), some (zR (some 91)), some (zR (some 120)), some (zI i), l5, l6] [] G h (k1, k2) := by
  have hg := hI.1
  have e1 : ((i + 1 : Nat) : Int) < (L : Int) := by omega
  have e2 : ((i + 2 : Nat) : Int) < (L : Int) := by omega
  have e3 : ((i + 3 : Nat) : Int) < (L : Int) := by omega
  have e4 : ((i + 4 : Nat) : Int) < (L : Int) := by omega
  have e5 : ((i + 5 : Nat) : Int) < (L : Int) := by omega
  have c1 : k1 ≤ 601024 := by omega
  have c2 : k2 ≤ 7293034 := by omega
  have c3 : k1 + 11 ≤ 601024 := by omega
  have c4 : k2 + 55 ≤ 7293034 := by omega
  have c5 : k1 + 1 ≤ 601024 := by omega
  have c6 : k2 + 6 ≤ 7293034 := by omega
  have w1 : True → wr ((i : Int) + 1) = ((i + 1 : Nat) : Int) := fun _ => wrN (by omega) (by omega)
  have w2 : True → wr ((i : Int) + 2) = ((i + 2 : Nat) : Int) := fun _ => wrN (by omega) (by omega)
  have w3 : True → wr ((i : Int) + 3) = ((i + 3 : Nat) : Int) := fun _ => wrN (by omega) (by omega)
  have w4 : True → wr ((i : Int) + 4) = ((i + 4 : Nat) : Int) := fun _ => wrN (by omega) (by omega)
  have w5 : True → wr ((i : Int) + 5) = ((i + 5 : Nat) : Int) := fun _ => wrN (by omega) (by omega)
  simp only [l_188, l_189, l_190, l_192, l_193, l_194, l_195, l_196, l_198, l_199, l_200, l_201, l_202, l_204, l_205, l_206, l_207, l_208, l_210, l_211, l_212, l_213, l_214, l_216, l_217, l_218, l_219, zs0, zsI, zsL, zsR, ztl1, ztl0, zc0, zcI, zcL, zcR, true_and, and_true, true_implies, false_implies, implies_true, not_true_eq_false, not_false_eq_true, and_self, Int.toNat_natCast, Nat.reduceAdd, Nat.reduceLeDiff, Nat.reduceLT, forall_eq', Option.some.injEq, zarR, zarI, zarL, zle, zq0, zq1, zq2, zq3, zq4, zq5, zq6, zq8, zq9, zq10, zq20, zq7, zq12, zq24, zq40, zq41, zq48, zq100, zq120, zq123, zq480, zq492, zq700, zq729, zq2187, zq2916, zq8748, ne_eq, Int.reduceEq, Int.reduceLT, Int.reduceLE, Int.reduceToNat, Int.reduceMul, Int.reduceAdd, Int.reduceNeg, w1 trivial, e1, w2 trivial, e2, w3 trivial, e3, w4 trivial, e4, w5 trivial, e5, gk0 hg, Nat.add_zero, c1, c2, c3, c4, c5, c6]
  refine zRunD_mono ztb zmt' (d + 16) _ _ _ _ _ _ ?_ (PR_w (p_feed (d := d) hI))
  rintro v G1 h1 ⟨z, rfl, gk, r⟩
  have k91 : G1.2.1 91 = 9 := by rw [gk]; exact gk91 hg
  simp only [l_222, l_223, l_224, l_226, l_227, l_228, l_229, l_230, l_232, l_233, l_234, l_235, l_236, l_238, l_239, l_240, l_241, l_242, l_244, l_245, l_246, l_247, l_248, l_250, l_251, l_252, l_253, zs0, zsI, zsL, zsR, ztl1, ztl0, zc0, zcI, zcL, zcR, true_and, and_true, true_implies, false_implies, implies_true, not_true_eq_false, not_false_eq_true, and_self, Int.toNat_natCast, Nat.reduceAdd, Nat.reduceLeDiff, Nat.reduceLT, forall_eq', Option.some.injEq, zarR, zarI, zarL, zle, zq0, zq1, zq2, zq3, zq4, zq5, zq6, zq8, zq9, zq10, zq20, zq7, zq12, zq24, zq40, zq41, zq48, zq100, zq120, zq123, zq480, zq492, zq700, zq729, zq2187, zq2916, zq8748, ne_eq, Int.reduceEq, Int.reduceLT, Int.reduceLE, Int.reduceToNat, Int.reduceMul, Int.reduceAdd, Int.reduceNeg, w1 trivial, e1, w2 trivial, e2, w3 trivial, e3, w4 trivial, e4, w5 trivial, e5, k91, Nat.add_zero, c1, c2, c3, c4, c5, c6]
  refine zRunD_mono ztb zmt' (d + 16) _ _ _ _ _ _ ?_ r
  rintro v' G2 h2 ⟨rfl, I2⟩
  simp only [l_256, l_259, l_260, zs0, zsI, zsL, zsR, ztl1, ztl0, zc0, zcI, zcL, zcR, true_and, and_true, true_implies, false_implies, implies_true, not_true_eq_false, not_false_eq_true, and_self, Int.toNat_natCast, Nat.reduceAdd, Nat.reduceLeDiff, Nat.reduceLT, forall_eq', Option.some.injEq, zarR, zarI, zarL, zle, zq0, zq1, zq2, zq3, zq4, zq5, zq6, zq8, zq9, zq10, zq20, zq7, zq12, zq24, zq40, zq41, zq48, zq100, zq120, zq123, zq480, zq492, zq700, zq729, zq2187, zq2916, zq8748, ne_eq, Int.reduceEq, Int.reduceLT, Int.reduceLE, Int.reduceToNat, Int.reduceMul, Int.reduceAdd, Int.reduceNeg, zlc_eq]
  exact K G2 h2 _ _ _ _ I2 (by omega) (by omega)
theorem law_1 (hI : INV G h) (hi : i + 6 ≤ L) (hL : L ≤ 3072) (b1 : k1 + 12 ≤ 601024) (b2 : k2 + 61 ≤ 7293034) (K : ∀ (G' : zG) (h' : zM) (k1' k2' : Nat) (l5 l6 : Option zV), INV G' h' → k1' ≤ k1 + 12 → k2' ≤ k2 + 61 → zLw (d + 16) (1, L, f) Q 1351 [some (zT 1000), some (zR (some 0)), some (zR (some 91)), some (zR (some 120)), some (zI i), l5, l6] [] G' h' (k1', k2')) : zLw (d + 16) (1, L, f) Q 261 [some (zT 1000), some (zR (some 0)), some (zR (some 91)), some (zR (some 120)), some (zI i), l5, l6] [] G h (k1, k2) := by
  have hg := hI.1
  have e1 : ((i + 1 : Nat) : Int) < (L : Int) := by omega
  have c1 : k1 ≤ 601024 := by omega
  have c2 : k2 ≤ 7293034 := by omega
  have c3 : k1 + 11 ≤ 601024 := by omega
  have c4 : k2 + 55 ≤ 7293034 := by omega
  have c5 : k1 + 1 ≤ 601024 := by omega
  have c6 : k2 + 6 ≤ 7293034 := by omega
  have w1 : True → wr ((i : Int) + 1) = ((i + 1 : Nat) : Int) := fun _ => wrN (by omega) (by omega)
  simp only [l_261, l_262, l_263, l_265, l_266, l_267, l_268, zs0, zsI, zsL, zsR, ztl1, ztl0, zc0, zcI, zcL, zcR, true_and, and_true, true_implies, false_implies, implies_true, not_true_eq_false, not_false_eq_true, and_self, Int.toNat_natCast, Nat.reduceAdd, Nat.reduceLeDiff, Nat.reduceLT, forall_eq', Option.some.injEq, zarR, zarI, zarL, zle, zq0, zq1, zq2, zq3, zq4, zq5, zq6, zq8, zq9, zq10, zq20, zq7, zq12, zq24, zq40, zq41, zq48, zq100, zq120, zq123, zq480, zq492, zq700, zq729, zq2187, zq2916, zq8748, ne_eq, Int.reduceEq, Int.reduceLT, Int.reduceLE, Int.reduceToNat, Int.reduceMul, Int.reduceAdd, Int.reduceNeg, w1 trivial, e1, gk0 hg, Nat.add_zero, c1, c2, c3, c4, c5, c6]
  refine zRunD_mono ztb zmt' (d + 16) _ _ _ _ _ _ ?_ (p_town (d := d) hI _)
  rintro v G1 h1 ⟨z, rfl, gk, r⟩
  have k91 : G1.2.1 91 = 9 := by rw [gk]; exact gk91 hg
  simp only [l_271, l_272, l_273, l_275, l_276, l_277, l_278, zs0, zsI, zsL, zsR, ztl1, ztl0, zc0, zcI, zcL, zcR, true_and, and_true, true_implies, false_implies, implies_true, not_true_eq_false, not_false_eq_true, and_self, Int.toNat_natCast, Nat.reduceAdd, Nat.reduceLeDiff, Nat.reduceLT, forall_eq', Option.some.injEq, zarR, zarI, zarL, zle, zq0, zq1, zq2, zq3, zq4, zq5, zq6, zq8, zq9, zq10, zq20, zq7, zq12, zq24, zq40, zq41, zq48, zq100, zq120, zq123, zq480, zq492, zq700, zq729, zq2187, zq2916, zq8748, ne_eq, Int.reduceEq, Int.reduceLT, Int.reduceLE, Int.reduceToNat, Int.reduceMul, Int.reduceAdd, Int.reduceNeg, w1 trivial, e1, k91, Nat.add_zero, c1, c2, c3, c4, c5, c6]
  refine zRunD_mono ztb zmt' (d + 16) _ _ _ _ _ _ ?_ r
  rintro v' G2 h2 ⟨rfl, I2⟩
  simp only [l_281, l_284, l_285, zs0, zsI, zsL, zsR, ztl1, ztl0, zc0, zcI, zcL, zcR, true_and, and_true, true_implies, false_implies, implies_true, not_true_eq_false, not_false_eq_true, and_self, Int.toNat_natCast, Nat.reduceAdd, Nat.reduceLeDiff, Nat.reduceLT, forall_eq', Option.some.injEq, zarR, zarI, zarL, zle, zq0, zq1, zq2, zq3, zq4, zq5, zq6, zq8, zq9, zq10, zq20, zq7, zq12, zq24, zq40, zq41, zq48, zq100, zq120, zq123, zq480, zq492, zq700, zq729, zq2187, zq2916, zq8748, ne_eq, Int.reduceEq, Int.reduceLT, Int.reduceLE, Int.reduceToNat, Int.reduceMul, Int.reduceAdd, Int.reduceNeg, zlc_eq]
  exact K G2 h2 _ _ _ _ I2 (by omega) (by omega)
theorem law_2 (hI : INV G h) (hi : i + 6 ≤ L) (hL : L ≤ 3072) (b1 : k1 + 12 ≤ 601024) (b2 : k2 + 61 ≤ 7293034) (K : ∀ (G' : zG) (h' : zM) (k1' k2' : Nat) (l5 l6 : Option zV), INV G' h' → k1' ≤ k1 + 12 → k2' ≤ k2 + 61 → zLw (d + 16) (1, L, f) Q 1351 [some (zT 1000), some (zR (some 0)), some (zR (some 91)), some (zR (some 120)), some (zI i), l5, l6] [] G' h' (k1', k2')) : zLw (d + 16) (1, L, f) Q 286 [some (zT 1000), some (zR (some 0)), some (zR (some 91)), some (zR (some 120)), some (zI i), l5, l6] [] G h (k1, k2) := by
  have hg := hI.1
  have c1 : k1 ≤ 601024 := by omega
  have c2 : k2 ≤ 7293034 := by omega
  have c3 : k1 + 11 ≤ 601024 := by omega
  have c4 : k2 + 55 ≤ 7293034 := by omega
  have c5 : k1 + 1 ≤ 601024 := by omega
  have c6 : k2 + 6 ≤ 7293034 := by omega
  simp only [l_286, l_287, zs0, zsI, zsL, zsR, ztl1, ztl0, zc0, zcI, zcL, zcR, true_and, and_true, true_implies, false_implies, implies_true, not_true_eq_false, not_false_eq_true, and_self, Int.toNat_natCast, Nat.reduceAdd, Nat.reduceLeDiff, Nat.reduceLT, forall_eq', Option.some.injEq, zarR, zarI, zarL, zle, zq0, zq1, zq2, zq3, zq4, zq5, zq6, zq8, zq9, zq10, zq20, zq7, zq12, zq24, zq40, zq41, zq48, zq100, zq120, zq123, zq480, zq492, zq700, zq729, zq2187, zq2916, zq8748, ne_eq, Int.reduceEq, Int.reduceLT, Int.reduceLE, Int.reduceToNat, Int.reduceMul, Int.reduceAdd, Int.reduceNeg, gk0 hg, Nat.add_zero, c1, c2, c3, c4, c5, c6]
  refine zRunD_mono ztb zmt' (d + 16) _ _ _ _ _ _ ?_ (PR_w (p_fault (d := d) hI))
  rintro v G1 h1 ⟨z, rfl, gk, r⟩
  have k91 : G1.2.1 91 = 9 := by rw [gk]; exact gk91 hg
  simp only [l_290, l_291, zs0, zsI, zsL, zsR, ztl1, ztl0, zc0, zcI, zcL, zcR, true_and, and_true, true_implies, false_implies, implies_true, not_true_eq_false, not_false_eq_true, and_self, Int.toNat_natCast, Nat.reduceAdd, Nat.reduceLeDiff, Nat.reduceLT, forall_eq', Option.some.injEq, zarR, zarI, zarL, zle, zq0, zq1, zq2, zq3, zq4, zq5, zq6, zq8, zq9, zq10, zq20, zq7, zq12, zq24, zq40, zq41, zq48, zq100, zq120, zq123, zq480, zq492, zq700, zq729, zq2187, zq2916, zq8748, ne_eq, Int.reduceEq, Int.reduceLT, Int.reduceLE, Int.reduceToNat, Int.reduceMul, Int.reduceAdd, Int.reduceNeg, k91, Nat.add_zero, c1, c2, c3, c4, c5, c6]
  refine zRunD_mono ztb zmt' (d + 16) _ _ _ _ _ _ ?_ r
  rintro v' G2 h2 ⟨rfl, I2⟩
  simp only [l_294, l_297, l_298, zs0, zsI, zsL, zsR, ztl1, ztl0, zc0, zcI, zcL, zcR, true_and, and_true, true_implies, false_implies, implies_true, not_true_eq_false, not_false_eq_true, and_self, Int.toNat_natCast, Nat.reduceAdd, Nat.reduceLeDiff, Nat.reduceLT, forall_eq', Option.some.injEq, zarR, zarI, zarL, zle, zq0, zq1, zq2, zq3, zq4, zq5, zq6, zq8, zq9, zq10, zq20, zq7, zq12, zq24, zq40, zq41, zq48, zq100, zq120, zq123, zq480, zq492, zq700, zq729, zq2187, zq2916, zq8748, ne_eq, Int.reduceEq, Int.reduceLT, Int.reduceLE, Int.reduceToNat, Int.reduceMul, Int.reduceAdd, Int.reduceNeg, zlc_eq]
  exact K G2 h2 _ _ _ _ I2 (by omega) (by omega)
theorem law_3 (hI : INV G h) (hi : i + 6 ≤ L) (hL : L ≤ 3072) (b1 : k1 + 12 ≤ 601024) (b2 : k2 + 61 ≤ 7293034) (K : ∀ (G' : zG) (h' : zM) (k1' k2' : Nat) (l5 l6 : Option zV), INV G' h' → k1' ≤ k1 + 12 → k2' ≤ k2 + 61 → zLw (d + 16) (1, L, f) Q 1351 [some (zT 1000), some (zR (some 0)), some (zR (some 91)), some (zR (some 120)), some (zI i), l5, l6] [] G' h' (k1', k2')) : zLw (d + 16) (1, L, f) Q 299 [some (zT 1000), some (zR (some 0)), some (zR (some 91)), some (zR (some 120)), some (zI i), l5, l6] [] G h (k1, k2) := by
  have hg := hI.1
  have c1 : k1 ≤ 601024 := by omega
  have c2 : k2 ≤ 7293034 := by omega
  have c3 : k1 + 11 ≤ 601024 := by omega
  have c4 : k2 + 55 ≤ 7293034 := by omega
  have c5 : k1 + 1 ≤ 601024 := by omega
  have c6 : k2 + 6 ≤ 7293034 := by omega
  simp only [l_299, l_300, zs0, zsI, zsL, zsR, ztl1, ztl0, zc0, zcI, zcL, zcR, true_and, and_true, true_implies, false_implies, implies_true, not_true_eq_false, not_false_eq_true, and_self, Int.toNat_natCast, Nat.reduceAdd, Nat.reduceLeDiff, Nat.reduceLT, forall_eq', Option.some.injEq, zarR, zarI, zarL, zle, zq0, zq1, zq2, zq3, zq4, zq5, zq6, zq8, zq9, zq10, zq20, zq7, zq12, zq24, zq40, zq41, zq48, zq100, zq120, zq123, zq480, zq492, zq700, zq729, zq2187, zq2916, zq8748, ne_eq, Int.reduceEq, Int.reduceLT, Int.reduceLE, Int.reduceToNat, Int.reduceMul, Int.reduceAdd, Int.reduceNeg, gk0 hg, Nat.add_zero, c1, c2, c3, c4, c5, c6]
  refine zRunD_mono ztb zmt' (d + 16) _ _ _ _ _ _ ?_ (PR_w (p_where (d := d) hI))
  rintro v G1 h1 ⟨z, rfl, gk, r⟩
  have k91 : G1.2.1 91 = 9 := by rw [gk]; exact gk91 hg
  simp only [l_303, l_304, zs0, zsI, zsL, zsR, ztl1, ztl0, zc0, zcI, zcL, zcR, true_and, and_true, true_implies, false_implies, implies_true, not_true_eq_false, not_false_eq_true, and_self, Int.toNat_natCast, Nat.reduceAdd, Nat.reduceLeDiff, Nat.reduceLT, forall_eq', Option.some.injEq, zarR, zarI, zarL, zle, zq0, zq1, zq2, zq3, zq4, zq5, zq6, zq8, zq9, zq10, zq20, zq7, zq12, zq24, zq40, zq41, zq48, zq100, zq120, zq123, zq480, zq492, zq700, zq729, zq2187, zq2916, zq8748, ne_eq, Int.reduceEq, Int.reduceLT, Int.reduceLE, Int.reduceToNat, Int.reduceMul, Int.reduceAdd, Int.reduceNeg, k91, Nat.add_zero, c1, c2, c3, c4, c5, c6]
  refine zRunD_mono ztb zmt' (d + 16) _ _ _ _ _ _ ?_ r
  rintro v' G2 h2 ⟨rfl, I2⟩
  simp only [l_307, l_310, l_311, zs0, zsI, zsL, zsR, ztl1, ztl0, zc0, zcI, zcL, zcR, true_and, and_true, true_implies, false_implies, implies_true, not_true_eq_false, not_false_eq_true, and_self, Int.toNat_natCast, Nat.reduceAdd, Nat.reduceLeDiff, Nat.reduceLT, forall_eq', Option.some.injEq, zarR, zarI, zarL, zle, zq0, zq1, zq2, zq3, zq4, zq5, zq6, zq8, zq9, zq10, zq20, zq7, zq12, zq24, zq40, zq41, zq48, zq100, zq120, zq123, zq480, zq492, zq700, zq729, zq2187, zq2916, zq8748, ne_eq, Int.reduceEq, Int.reduceLT, Int.reduceLE, Int.reduceToNat, Int.reduceMul, Int.reduceAdd, Int.reduceNeg, zlc_eq]
  exact K G2 h2 _ _ _ _ I2 (by omega) (by omega)
theorem law_4 (hI : INV G h) (hi : i + 6 ≤ L) (hL : L ≤ 3072) (b1 : k1 + 12 ≤ 601024) (b2 : k2 + 61 ≤ 7293034) (K : ∀ (G' : zG) (h' : zM) (k1' k2' : Nat) (l5 l6 : Option zV), INV G' h' → k1' ≤ k1 + 12 → k2' ≤ k2 + 61 → zLw (d + 16) (1, L, f) Q 1351 [some (zT 1000), some (zR (some 0)), some (zR (some 91)), some (zR (some 120)), some (zI i), l5, l6] [] G' h' (k1', k2')) : zLw (d + 16) (1, L, f) Q 312 [some (zT 1000), some (zR (some 0)), some (zR (some 91)), some (zR (some 120)), some (zI i), l5, l6] [] G h (k1, k2) := by
  have hg := hI.1
  have e1 : ((i + 1 : Nat) : Int) < (L : Int) := by omega
  have e2 : ((i + 2 : Nat) : Int) < (L : Int) := by omega
  have e3 : ((i + 3 : Nat) : Int) < (L : Int) := by omega
  have c1 : k1 ≤ 601024 := by omega
  have c2 : k2 ≤ 7293034 := by omega
  have c3 : k1 + 11 ≤ 601024 := by omega
  have c4 : k2 + 55 ≤ 7293034 := by omega
  have c5 : k1 + 1 ≤ 601024 := by omega
  have c6 : k2 + 6 ≤ 7293034 := by omega
  have w1 : True → wr ((i : Int) + 1) = ((i + 1 : Nat) : Int) := fun _ => wrN (by omega) (by omega)
  have w2 : True → wr ((i : Int) + 2) = ((i + 2 : Nat) : Int) := fun _ => wrN (by omega) (by omega)
  have w3 : True → wr ((i : Int) + 3) = ((i + 3 : Nat) : Int) := fun _ => wrN (by omega) (by omega)
  simp only [l_312, l_313, l_314, l_316, l_317, l_318, l_319, l_320, l_322, l_323, l_324, l_325, l_326, l_328, l_329, l_330, l_331, zs0, zsI, zsL, zsR, ztl1, ztl0, zc0, zcI, zcL, zcR, true_and, and_true, true_implies, false_implies, implies_true, not_true_eq_false, not_false_eq_true, and_self, Int.toNat_natCast, Nat.reduceAdd, Nat.reduceLeDiff, Nat.reduceLT, forall_eq', Option.some.injEq, zarR, zarI, zarL, zle, zq0, zq1, zq2, zq3, zq4, zq5, zq6, zq8, zq9, zq10, zq20, zq7, zq12, zq24, zq40, zq41, zq48, zq100, zq120, zq123, zq480, zq492, zq700, zq729, zq2187, zq2916, zq8748, ne_eq, Int.reduceEq, Int.reduceLT, Int.reduceLE, Int.reduceToNat, Int.reduceMul, Int.reduceAdd, Int.reduceNeg, w1 trivial, e1, w2 trivial, e2, w3 trivial, e3, gk0 hg, Nat.add_zero, c1, c2, c3, c4, c5, c6]
  refine zRunD_mono ztb zmt' (d + 16) _ _ _ _ _ _ ?_ (PR_w (p_hold (d := d) hI))
  rintro v G1 h1 ⟨z, rfl, gk, r⟩
  have k91 : G1.2.1 91 = 9 := by rw [gk]; exact gk91 hg
  simp only [l_334, l_335, l_336, l_338, l_339, l_340, l_341, l_342, l_344, l_345, l_346, l_347, l_348, l_350, l_351, l_352, l_353, zs0, zsI, zsL, zsR, ztl1, ztl0, zc0, zcI, zcL, zcR, true_and, and_true, true_implies, false_implies, implies_true, not_true_eq_false, not_false_eq_true, and_self, Int.toNat_natCast, Nat.reduceAdd, Nat.reduceLeDiff, Nat.reduceLT, forall_eq', Option.some.injEq, zarR, zarI, zarL, zle, zq0, zq1, zq2, zq3, zq4, zq5, zq6, zq8, zq9, zq10, zq20, zq7, zq12, zq24, zq40, zq41, zq48, zq100, zq120, zq123, zq480, zq492, zq700, zq729, zq2187, zq2916, zq8748, ne_eq, Int.reduceEq, Int.reduceLT, Int.reduceLE, Int.reduceToNat, Int.reduceMul, Int.reduceAdd, Int.reduceNeg, w1 trivial, e1, w2 trivial, e2, w3 trivial, e3, k91, Nat.add_zero, c1, c2, c3, c4, c5, c6]
  refine zRunD_mono ztb zmt' (d + 16) _ _ _ _ _ _ ?_ r
  rintro v' G2 h2 ⟨rfl, I2⟩
  simp only [l_356, l_359, l_360, zs0, zsI, zsL, zsR, ztl1, ztl0, zc0, zcI, zcL, zcR, true_and, and_true, true_implies, false_implies, implies_true, not_true_eq_false, not_false_eq_true, and_self, Int.toNat_natCast, Nat.reduceAdd, Nat.reduceLeDiff, Nat.reduceLT, forall_eq', Option.some.injEq, zarR, zarI, zarL, zle, zq0, zq1, zq2, zq3, zq4, zq5, zq6, zq8, zq9, zq10, zq20, zq7, zq12, zq24, zq40, zq41, zq48, zq100, zq120, zq123, zq480, zq492, zq700, zq729, zq2187, zq2916, zq8748, ne_eq, Int.reduceEq, Int.reduceLT, Int.reduceLE, Int.reduceToNat, Int.reduceMul, Int.reduceAdd, Int.reduceNeg, zlc_eq]
  exact K G2 h2 _ _ _ _ I2 (by omega) (by omega)
theorem law_5 (hI : INV G h) (hi : i + 6 ≤ L) (hL : L ≤ 3072) (b1 : k1 + 12 ≤ 601024) (b2 : k2 + 61 ≤ 7293034) (K : ∀ (G' : zG) (h' : zM) (k1' k2' : Nat) (l5 l6 : Option zV), INV G' h' → k1' ≤ k1 + 12 → k2' ≤ k2 + 61 → zLw (d + 16) (1, L, f) Q 1351 [some (zT 1000), some (zR (some 0)), some (zR (some 91)), some (zR (some 120)), some (zI i), l5, l6] [] G' h' (k1', k2')) : zLw (d + 16) (1, L, f) Q 361 [some (zT 1000), some (zR (some 0)), some (zR (some 91)), some (zR (some 120)), some (zI i), l5, l6] [] G h (k1, k2) := by
  have hg := hI.1
  have e1 : ((i + 1 : Nat) : Int) < (L : Int) := by omega
  have e2 : ((i + 2 : Nat) : Int) < (L : Int) := by omega
  have e3 : ((i + 3 : Nat) : Int) < (L : Int) := by omega
  have c1 : k1 ≤ 601024 := by omega
  have c2 : k2 ≤ 7293034 := by omega
  have c3 : k1 + 11 ≤ 601024 := by omega
  have c4 : k2 + 55 ≤ 7293034 := by omega
  have c5 : k1 + 1 ≤ 601024 := by omega
  have c6 : k2 + 6 ≤ 7293034 := by omega
  have w1 : True → wr ((i : Int) + 1) = ((i + 1 : Nat) : Int) := fun _ => wrN (by omega) (by omega)
  have w2 : True → wr ((i : Int) + 2) = ((i + 2 : Nat) : Int) := fun _ => wrN (by omega) (by omega)
  have w3 : True → wr ((i : Int) + 3) = ((i + 3 : Nat) : Int) := fun _ => wrN (by omega) (by omega)
  simp only [l_361, l_362, l_363, l_365, l_366, l_367, l_368, l_369, l_371, l_372, l_373, l_374, l_375, l_377, l_378, l_379, l_380, zs0, zsI, zsL, zsR, ztl1, ztl0, zc0, zcI, zcL, zcR, true_and, and_true, true_implies, false_implies, implies_true, not_true_eq_false, not_false_eq_true, and_self, Int.toNat_natCast, Nat.reduceAdd, Nat.reduceLeDiff, Nat.reduceLT, forall_eq', Option.some.injEq, zarR, zarI, zarL, zle, zq0, zq1, zq2, zq3, zq4, zq5, zq6, zq8, zq9, zq10, zq20, zq7, zq12, zq24, zq40, zq41, zq48, zq100, zq120, zq123, zq480, zq492, zq700, zq729, zq2187, zq2916, zq8748, ne_eq, Int.reduceEq, Int.reduceLT, Int.reduceLE, Int.reduceToNat, Int.reduceMul, Int.reduceAdd, Int.reduceNeg, w1 trivial, e1, w2 trivial, e2, w3 trivial, e3, gk0 hg, Nat.add_zero, c1, c2, c3, c4, c5, c6]
  refine zRunD_mono ztb zmt' (d + 16) _ _ _ _ _ _ ?_ (PR_w (p_ask (d := d) hI))
  rintro v G1 h1 ⟨z, rfl, gk, r⟩
  have k91 : G1.2.1 91 = 9 := by rw [gk]; exact gk91 hg
  simp only [l_383, l_384, l_385, l_387, l_388, l_389, l_390, l_391, l_393, l_394, l_395, l_396, l_397, l_399, l_400, l_401, l_402, zs0, zsI, zsL, zsR, ztl1, ztl0, zc0, zcI, zcL, zcR, true_and, and_true, true_implies, false_implies, implies_true, not_true_eq_false, not_false_eq_true, and_self, Int.toNat_natCast, Nat.reduceAdd, Nat.reduceLeDiff, Nat.reduceLT, forall_eq', Option.some.injEq, zarR, zarI, zarL, zle, zq0, zq1, zq2, zq3, zq4, zq5, zq6, zq8, zq9, zq10, zq20, zq7, zq12, zq24, zq40, zq41, zq48, zq100, zq120, zq123, zq480, zq492, zq700, zq729, zq2187, zq2916, zq8748, ne_eq, Int.reduceEq, Int.reduceLT, Int.reduceLE, Int.reduceToNat, Int.reduceMul, Int.reduceAdd, Int.reduceNeg, w1 trivial, e1, w2 trivial, e2, w3 trivial, e3, k91, Nat.add_zero, c1, c2, c3, c4, c5, c6]
  refine zRunD_mono ztb zmt' (d + 16) _ _ _ _ _ _ ?_ r
  rintro v' G2 h2 ⟨rfl, I2⟩
  simp only [l_405, l_408, l_409, zs0, zsI, zsL, zsR, ztl1, ztl0, zc0, zcI, zcL, zcR, true_and, and_true, true_implies, false_implies, implies_true, not_true_eq_false, not_false_eq_true, and_self, Int.toNat_natCast, Nat.reduceAdd, Nat.reduceLeDiff, Nat.reduceLT, forall_eq', Option.some.injEq, zarR, zarI, zarL, zle, zq0, zq1, zq2, zq3, zq4, zq5, zq6, zq8, zq9, zq10, zq20, zq7, zq12, zq24, zq40, zq41, zq48, zq100, zq120, zq123, zq480, zq492, zq700, zq729, zq2187, zq2916, zq8748, ne_eq, Int.reduceEq, Int.reduceLT, Int.reduceLE, Int.reduceToNat, Int.reduceMul, Int.reduceAdd, Int.reduceNeg, zlc_eq]
  exact K G2 h2 _ _ _ _ I2 (by omega) (by omega)
theorem law_6 (hI : INV G h) (hi : i + 6 ≤ L) (hL : L ≤ 3072) (b1 : k1 + 12 ≤ 601024) (b2 : k2 + 61 ≤ 7293034) (K : ∀ (G' : zG) (h' : zM) (k1' k2' : Nat) (l5 l6 : Option zV), INV G' h' → k1' ≤ k1 + 12 → k2' ≤ k2 + 61 → zLw (d + 16) (1, L, f) Q 1351 [some (zT 1000), some (zR (some 0)), some (zR (some 91)), some (zR (some 120)), some (zI i), l5, l6] [] G' h' (k1', k2')) : zLw (d + 16) (1, L, f) Q 410 [some (zT 1000), some (zR (some 0)), some (zR (some 91)), some (zR (some 120)), some (zI i), l5, l6] [] G h (k1, k2) := by
  have hg := hI.1
  have e1 : ((i + 1 : Nat) : Int) < (L : Int) := by omega
  have e2 : ((i + 2 : Nat) : Int) < (L : Int) := by omega
  have c1 : k1 ≤ 601024 := by omega
  have c2 : k2 ≤ 7293034 := by omega
  have c3 : k1 + 11 ≤ 601024 := by omega
  have c4 : k2 + 55 ≤ 7293034 := by omega
  have c5 : k1 + 1 ≤ 601024 := by omega
  have c6 : k2 + 6 ≤ 7293034 := by omega
  have w1 : True → wr ((i : Int) + 1) = ((i + 1 : Nat) : Int) := fun _ => wrN (by omega) (by omega)
  have w2 : True → wr ((i : Int) + 2) = ((i + 2 : Nat) : Int) := fun _ => wrN (by omega) (by omega)
  simp only [l_410, l_411, l_412, l_414, l_415, l_416, l_417, l_418, l_420, l_421, l_422, l_423, zs0, zsI, zsL, zsR, ztl1, ztl0, zc0, zcI, zcL, zcR, true_and, and_true, true_implies, false_implies, implies_true, not_true_eq_false, not_false_eq_true, and_self, Int.toNat_natCast, Nat.reduceAdd, Nat.reduceLeDiff, Nat.reduceLT, forall_eq', Option.some.injEq, zarR, zarI, zarL, zle, zq0, zq1, zq2, zq3, zq4, zq5, zq6, zq8, zq9, zq10, zq20, zq7, zq12, zq24, zq40, zq41, zq48, zq100, zq120, zq123, zq480, zq492, zq700, zq729, zq2187, zq2916, zq8748, ne_eq, Int.reduceEq, Int.reduceLT, Int.reduceLE, Int.reduceToNat, Int.reduceMul, Int.reduceAdd, Int.reduceNeg, w1 trivial, e1, w2 trivial, e2, gk0 hg, Nat.add_zero, c1, c2, c3, c4, c5, c6]
  refine zRunD_mono ztb zmt' (d + 16) _ _ _ _ _ _ ?_ (PR_w (p_choose (d := d) hI))
  rintro v G1 h1 ⟨z, rfl, gk, r⟩
  have k91 : G1.2.1 91 = 9 := by rw [gk]; exact gk91 hg
  simp only [l_426, l_427, l_428, l_430, l_431, l_432, l_433, l_434, l_436, l_437, l_438, l_439, zs0, zsI, zsL, zsR, ztl1, ztl0, zc0, zcI, zcL, zcR, true_and, and_true, true_implies, false_implies, implies_true, not_true_eq_false, not_false_eq_true, and_self, Int.toNat_natCast, Nat.reduceAdd, Nat.reduceLeDiff, Nat.reduceLT, forall_eq', Option.some.injEq, zarR, zarI, zarL, zle, zq0, zq1, zq2, zq3, zq4, zq5, zq6, zq8, zq9, zq10, zq20, zq7, zq12, zq24, zq40, zq41, zq48, zq100, zq120, zq123, zq480, zq492, zq700, zq729, zq2187, zq2916, zq8748, ne_eq, Int.reduceEq, Int.reduceLT, Int.reduceLE, Int.reduceToNat, Int.reduceMul, Int.reduceAdd, Int.reduceNeg, w1 trivial, e1, w2 trivial, e2, k91, Nat.add_zero, c1, c2, c3, c4, c5, c6]
  refine zRunD_mono ztb zmt' (d + 16) _ _ _ _ _ _ ?_ r
  rintro v' G2 h2 ⟨rfl, I2⟩
  simp only [l_442, l_445, l_446, zs0, zsI, zsL, zsR, ztl1, ztl0, zc0, zcI, zcL, zcR, true_and, and_true, true_implies, false_implies, implies_true, not_true_eq_false, not_false_eq_true, and_self, Int.toNat_natCast, Nat.reduceAdd, Nat.reduceLeDiff, Nat.reduceLT, forall_eq', Option.some.injEq, zarR, zarI, zarL, zle, zq0, zq1, zq2, zq3, zq4, zq5, zq6, zq8, zq9, zq10, zq20, zq7, zq12, zq24, zq40, zq41, zq48, zq100, zq120, zq123, zq480, zq492, zq700, zq729, zq2187, zq2916, zq8748, ne_eq, Int.reduceEq, Int.reduceLT, Int.reduceLE, Int.reduceToNat, Int.reduceMul, Int.reduceAdd, Int.reduceNeg, zlc_eq]
  exact K G2 h2 _ _ _ _ I2 (by omega) (by omega)
theorem law_7 (hI : INV G h) (hi : i + 6 ≤ L) (hL : L ≤ 3072) (b1 : k1 + 12 ≤ 601024) (b2 : k2 + 61 ≤ 7293034) (K : ∀ (G' : zG) (h' : zM) (k1' k2' : Nat) (l5 l6 : Option zV), INV G' h' → k1' ≤ k1 + 12 → k2' ≤ k2 + 61 → zLw (d + 16) (1, L, f) Q 1351 [some (zT 1000), some (zR (some 0)), some (zR (some 91)), some (zR (some 120)), some (zI i), l5, l6] [] G' h' (k1', k2')) : zLw (d + 16) (1, L, f) Q 447 [some (zT 1000), some (zR (some 0)), some (zR (some 91)), some (zR (some 120)), some (zI i), l5, l6] [] G h (k1, k2) := by
  have hg := hI.1
  have e1 : ((i + 1 : Nat) : Int) < (L : Int) := by omega
  have e2 : ((i + 2 : Nat) : Int) < (L : Int) := by omega
  have e3 : ((i + 3 : Nat) : Int) < (L : Int) := by omega
  have c1 : k1 ≤ 601024 := by omega
  have c2 : k2 ≤ 7293034 := by omega
  have c3 : k1 + 11 ≤ 601024 := by omega
  have c4 : k2 + 55 ≤ 7293034 := by omega
  have c5 : k1 + 1 ≤ 601024 := by omega
  have c6 : k2 + 6 ≤ 7293034 := by omega
  have w1 : True → wr ((i : Int) + 1) = ((i + 1 : Nat) : Int) := fun _ => wrN (by omega) (by omega)
  have w2 : True → wr ((i : Int) + 2) = ((i + 2 : Nat) : Int) := fun _ => wrN (by omega) (by omega)
  have w3 : True → wr ((i : Int) + 3) = ((i + 3 : Nat) : Int) := fun _ => wrN (by omega) (by omega)
  simp only [l_447, l_448, l_449, l_451, l_452, l_453, l_454, l_455, l_457, l_458, l_459, l_460, l_461, l_463, l_464, l_465, l_466, zs0, zsI, zsL, zsR, ztl1, ztl0, zc0, zcI, zcL, zcR, true_and, and_true, true_implies, false_implies, implies_true, not_true_eq_false, not_false_eq_true, and_self, Int.toNat_natCast, Nat.reduceAdd, Nat.reduceLeDiff, Nat.reduceLT, forall_eq', Option.some.injEq, zarR, zarI, zarL, zle, zq0, zq1, zq2, zq3, zq4, zq5, zq6, zq8, zq9, zq10, zq20, zq7, zq12, zq24, zq40, zq41, zq48, zq100, zq120, zq123, zq480, zq492, zq700, zq729, zq2187, zq2916, zq8748, ne_eq, Int.reduceEq, Int.reduceLT, Int.reduceLE, Int.reduceToNat, Int.reduceMul, Int.reduceAdd, Int.reduceNeg, w1 trivial, e1, w2 trivial, e2, w3 trivial, e3, gk0 hg, Nat.add_zero, c1, c2, c3, c4, c5, c6]
  refine zRunD_mono ztb zmt' (d + 16) _ _ _ _ _ _ ?_ (PR_w (p_has (d := d) hI))
  rintro v G1 h1 ⟨z, rfl, gk, r⟩
  have k91 : G1.2.1 91 = 9 := by rw [gk]; exact gk91 hg
  simp only [l_469, l_470, l_471, l_473, l_474, l_475, l_476, l_477, l_479, l_480, l_481, l_482, l_483, l_485, l_486, l_487, l_488, zs0, zsI, zsL, zsR, ztl1, ztl0, zc0, zcI, zcL, zcR, true_and, and_true, true_implies, false_implies, implies_true, not_true_eq_false, not_false_eq_true, and_self, Int.toNat_natCast, Nat.reduceAdd, Nat.reduceLeDiff, Nat.reduceLT, forall_eq', Option.some.injEq, zarR, zarI, zarL, zle, zq0, zq1, zq2, zq3, zq4, zq5, zq6, zq8, zq9, zq10, zq20, zq7, zq12, zq24, zq40, zq41, zq48, zq100, zq120, zq123, zq480, zq492, zq700, zq729, zq2187, zq2916, zq8748, ne_eq, Int.reduceEq, Int.reduceLT, Int.reduceLE, Int.reduceToNat, Int.reduceMul, Int.reduceAdd, Int.reduceNeg, w1 trivial, e1, w2 trivial, e2, w3 trivial, e3, k91, Nat.add_zero, c1, c2, c3, c4, c5, c6]
  refine zRunD_mono ztb zmt' (d + 16) _ _ _ _ _ _ ?_ r
  rintro v' G2 h2 ⟨rfl, I2⟩
  simp only [l_491, l_494, l_495, zs0, zsI, zsL, zsR, ztl1, ztl0, zc0, zcI, zcL, zcR, true_and, and_true, true_implies, false_implies, implies_true, not_true_eq_false, not_false_eq_true, and_self, Int.toNat_natCast, Nat.reduceAdd, Nat.reduceLeDiff, Nat.reduceLT, forall_eq', Option.some.injEq, zarR, zarI, zarL, zle, zq0, zq1, zq2, zq3, zq4, zq5, zq6, zq8, zq9, zq10, zq20, zq7, zq12, zq24, zq40, zq41, zq48, zq100, zq120, zq123, zq480, zq492, zq700, zq729, zq2187, zq2916, zq8748, ne_eq, Int.reduceEq, Int.reduceLT, Int.reduceLE, Int.reduceToNat, Int.reduceMul, Int.reduceAdd, Int.reduceNeg, zlc_eq]
  exact K G2 h2 _ _ _ _ I2 (by omega) (by omega)
theorem law_8 (hI : INV G h) (hi : i + 6 ≤ L) (hL : L ≤ 3072) (b1 : k1 + 12 ≤ 601024) (b2 : k2 + 61 ≤ 7293034) (K : ∀ (G' : zG) (h' : zM) (k1' k2' : Nat) (l5 l6 : Option zV), INV G' h' → k1' ≤ k1 + 12 → k2' ≤ k2 + 61 → zLw (d + 16) (1, L, f) Q 1351 [some (zT 1000), some (zR (some 0)), some (zR (some 91)), some (zR (some 120)), some (zI i), l5, l6] [] G' h' (k1', k2')) : zLw (d + 16) (1, L, f) Q 496 [some (zT 1000), some (zR (some 0)), some (zR (some 91)), some (zR (some 120)), some (zI i), l5, l6] [] G h (k1, k2) := by
  have hg := hI.1
  have e1 : ((i + 1 : Nat) : Int) < (L : Int) := by omega
  have c1 : k1 ≤ 601024 := by omega
  have c2 : k2 ≤ 7293034 := by omega
  have c3 : k1 + 11 ≤ 601024 := by omega
  have c4 : k2 + 55 ≤ 7293034 := by omega
  have c5 : k1 + 1 ≤ 601024 := by omega
  have c6 : k2 + 6 ≤ 7293034 := by omega
  have w1 : True → wr ((i : Int) + 1) = ((i + 1 : Nat) : Int) := fun _ => wrN (by omega) (by omega)
  simp only [l_496, l_497, l_498, l_500, l_501, l_502, l_503, zs0, zsI, zsL, zsR, ztl1, ztl0, zc0, zcI, zcL, zcR, true_and, and_true, true_implies, false_implies, implies_true, not_true_eq_false, not_false_eq_true, and_self, Int.toNat_natCast, Nat.reduceAdd, Nat.reduceLeDiff, Nat.reduceLT, forall_eq', Option.some.injEq, zarR, zarI, zarL, zle, zq0, zq1, zq2, zq3, zq4, zq5, zq6, zq8, zq9, zq10, zq20, zq7, zq12, zq24, zq40, zq41, zq48, zq100, zq120, zq123, zq480, zq492, zq700, zq729, zq2187, zq2916, zq8748, ne_eq, Int.reduceEq, Int.reduceLT, Int.reduceLE, Int.reduceToNat, Int.reduceMul, Int.reduceAdd, Int.reduceNeg, w1 trivial, e1, gk0 hg, Nat.add_zero, c1, c2, c3, c4, c5, c6]
  refine zRunD_mono ztb zmt' (d + 16) _ _ _ _ _ _ ?_ (PR_w (p_seed (d := d) hI))
  rintro v G1 h1 ⟨z, rfl, gk, r⟩
  have k91 : G1.2.1 91 = 9 := by rw [gk]; exact gk91 hg
  simp only [l_506, l_507, l_508, l_510, l_511, l_512, l_513, zs0, zsI, zsL, zsR, ztl1, ztl0, zc0, zcI, zcL, zcR, true_and, and_true, true_implies, false_implies, implies_true, not_true_eq_false, not_false_eq_true, and_self, Int.toNat_natCast, Nat.reduceAdd, Nat.reduceLeDiff, Nat.reduceLT, forall_eq', Option.some.injEq, zarR, zarI, zarL, zle, zq0, zq1, zq2, zq3, zq4, zq5, zq6, zq8, zq9, zq10, zq20, zq7, zq12, zq24, zq40, zq41, zq48, zq100, zq120, zq123, zq480, zq492, zq700, zq729, zq2187, zq2916, zq8748, ne_eq, Int.reduceEq, Int.reduceLT, Int.reduceLE, Int.reduceToNat, Int.reduceMul, Int.reduceAdd, Int.reduceNeg, w1 trivial, e1, k91, Nat.add_zero, c1, c2, c3, c4, c5, c6]
  refine zRunD_mono ztb zmt' (d + 16) _ _ _ _ _ _ ?_ r
  rintro v' G2 h2 ⟨rfl, I2⟩
  simp only [l_516, l_519, l_520, zs0, zsI, zsL, zsR, ztl1, ztl0, zc0, zcI, zcL, zcR, true_and, and_true, true_implies, false_implies, implies_true, not_true_eq_false, not_false_eq_true, and_self, Int.toNat_natCast, Nat.reduceAdd, Nat.reduceLeDiff, Nat.reduceLT, forall_eq', Option.some.injEq, zarR, zarI, zarL, zle, zq0, zq1, zq2, zq3, zq4, zq5, zq6, zq8, zq9, zq10, zq20, zq7, zq12, zq24, zq40, zq41, zq48, zq100, zq120, zq123, zq480, zq492, zq700, zq729, zq2187, zq2916, zq8748, ne_eq, Int.reduceEq, Int.reduceLT, Int.reduceLE, Int.reduceToNat, Int.reduceMul, Int.reduceAdd, Int.reduceNeg, zlc_eq]
  exact K G2 h2 _ _ _ _ I2 (by omega) (by omega)
theorem law_9 (hI : INV G h) (hi : i + 6 ≤ L) (hL : L ≤ 3072) (b1 : k1 + 12 ≤ 601024) (b2 : k2 + 61 ≤ 7293034) (K : ∀ (G' : zG) (h' : zM) (k1' k2' : Nat) (l5 l6 : Option zV), INV G' h' → k1' ≤ k1 + 12 → k2' ≤ k2 + 61 → zLw (d + 16) (1, L, f) Q 1351 [some (zT 1000), some (zR (some 0)), some (zR (some 91)), some (zR (some 120)), some (zI i), l5, l6] [] G' h' (k1', k2')) : zLw (d + 16) (1, L, f) Q 521 [some (zT 1000), some (zR (some 0)), some (zR (some 91)), some (zR (some 120)), some (zI i), l5, l6] [] G h (k1, k2) := by
  have hg := hI.1
  have e1 : ((i + 1 : Nat) : Int) < (L : Int) := by omega
  have c1 : k1 ≤ 601024 := by omega
  have c2 : k2 ≤ 7293034 := by omega
  have c3 : k1 + 11 ≤ 601024 := by omega
  have c4 : k2 + 55 ≤ 7293034 := by omega
  have c5 : k1 + 1 ≤ 601024 := by omega
  have c6 : k2 + 6 ≤ 7293034 := by omega
  have w1 : True → wr ((i : Int) + 1) = ((i + 1 : Nat) : Int) := fun _ => wrN (by omega) (by omega)
  simp only [l_521, l_522, l_523, l_525, l_526, l_527, l_528, zs0, zsI, zsL, zsR, ztl1, ztl0, zc0, zcI, zcL, zcR, true_and, and_true, true_implies, false_implies, implies_true, not_true_eq_false, not_false_eq_true, and_self, Int.toNat_natCast, Nat.reduceAdd, Nat.reduceLeDiff, Nat.reduceLT, forall_eq', Option.some.injEq, zarR, zarI, zarL, zle, zq0, zq1, zq2, zq3, zq4, zq5, zq6, zq8, zq9, zq10, zq20, zq7, zq12, zq24, zq40, zq41, zq48, zq100, zq120, zq123, zq480, zq492, zq700, zq729, zq2187, zq2916, zq8748, ne_eq, Int.reduceEq, Int.reduceLT, Int.reduceLE, Int.reduceToNat, Int.reduceMul, Int.reduceAdd, Int.reduceNeg, w1 trivial, e1, gk0 hg, Nat.add_zero, c1, c2, c3, c4, c5, c6]
  refine zRunD_mono ztb zmt' (d + 16) _ _ _ _ _ _ ?_ (PR_w (p_go (d := d) hI))
  rintro v G1 h1 ⟨z, rfl, gk, r⟩
  have k91 : G1.2.1 91 = 9 := by rw [gk]; exact gk91 hg
  simp only [l_531, l_532, l_533, l_535, l_536, l_537, l_538, zs0, zsI, zsL, zsR, ztl1, ztl0, zc0, zcI, zcL, zcR, true_and, and_true, true_implies, false_implies, implies_true, not_true_eq_false, not_false_eq_true, and_self, Int.toNat_natCast, Nat.reduceAdd, Nat.reduceLeDiff, Nat.reduceLT, forall_eq', Option.some.injEq, zarR, zarI, zarL, zle, zq0, zq1, zq2, zq3, zq4, zq5, zq6, zq8, zq9, zq10, zq20, zq7, zq12, zq24, zq40, zq41, zq48, zq100, zq120, zq123, zq480, zq492, zq700, zq729, zq2187, zq2916, zq8748, ne_eq, Int.reduceEq, Int.reduceLT, Int.reduceLE, Int.reduceToNat, Int.reduceMul, Int.reduceAdd, Int.reduceNeg, w1 trivial, e1, k91, Nat.add_zero, c1, c2, c3, c4, c5, c6]
  refine zRunD_mono ztb zmt' (d + 16) _ _ _ _ _ _ ?_ r
  rintro v' G2 h2 ⟨rfl, I2⟩
  simp only [l_541, l_544, l_545, zs0, zsI, zsL, zsR, ztl1, ztl0, zc0, zcI, zcL, zcR, true_and, and_true, true_implies, false_implies, implies_true, not_true_eq_false, not_false_eq_true, and_self, Int.toNat_natCast, Nat.reduceAdd, Nat.reduceLeDiff, Nat.reduceLT, forall_eq', Option.some.injEq, zarR, zarI, zarL, zle, zq0, zq1, zq2, zq3, zq4, zq5, zq6, zq8, zq9, zq10, zq20, zq7, zq12, zq24, zq40, zq41, zq48, zq100, zq120, zq123, zq480, zq492, zq700, zq729, zq2187, zq2916, zq8748, ne_eq, Int.reduceEq, Int.reduceLT, Int.reduceLE, Int.reduceToNat, Int.reduceMul, Int.reduceAdd, Int.reduceNeg, zlc_eq]
  exact K G2 h2 _ _ _ _ I2 (by omega) (by omega)
theorem law_10 (hI : INV G h) (hi : i + 6 ≤ L) (hL : L ≤ 3072) (b1 : k1 + 12 ≤ 601024) (b2 : k2 + 61 ≤ 7293034) (K : ∀ (G' : zG) (h' : zM) (k1' k2' : Nat) (l5 l6 : Option zV), INV G' h' → k1' ≤ k1 + 12 → k2' ≤ k2 + 61 → zLw (d + 16) (1, L, f) Q 1351 [some (zT 1000), some (zR (some 0)), some (zR (some 91)), some (zR (some 120)), some (zI i), l5, l6] [] G' h' (k1', k2')) : zLw (d + 16) (1, L, f) Q 546 [some (zT 1000), some (zR (some 0)), some (zR (some 91)), some (zR (some 120)), some (zI i), l5, l6] [] G h (k1, k2) := by
  have hg := hI.1
  have e1 : ((i + 1 : Nat) : Int) < (L : Int) := by omega
  have c1 : k1 ≤ 601024 := by omega
  have c2 : k2 ≤ 7293034 := by omega
  have c3 : k1 + 11 ≤ 601024 := by omega
  have c4 : k2 + 55 ≤ 7293034 := by omega
  have c5 : k1 + 1 ≤ 601024 := by omega
  have c6 : k2 + 6 ≤ 7293034 := by omega
  have w1 : True → wr ((i : Int) + 1) = ((i + 1 : Nat) : Int) := fun _ => wrN (by omega) (by omega)
  simp only [l_546, l_547, l_548, l_550, l_551, l_552, l_553, zs0, zsI, zsL, zsR, ztl1, ztl0, zc0, zcI, zcL, zcR, true_and, and_true, true_implies, false_implies, implies_true, not_true_eq_false, not_false_eq_true, and_self, Int.toNat_natCast, Nat.reduceAdd, Nat.reduceLeDiff, Nat.reduceLT, forall_eq', Option.some.injEq, zarR, zarI, zarL, zle, zq0, zq1, zq2, zq3, zq4, zq5, zq6, zq8, zq9, zq10, zq20, zq7, zq12, zq24, zq40, zq41, zq48, zq100, zq120, zq123, zq480, zq492, zq700, zq729, zq2187, zq2916, zq8748, ne_eq, Int.reduceEq, Int.reduceLT, Int.reduceLE, Int.reduceToNat, Int.reduceMul, Int.reduceAdd, Int.reduceNeg, w1 trivial, e1, gk0 hg, Nat.add_zero, c1, c2, c3, c4, c5, c6]
  refine zRunD_mono ztb zmt' (d + 16) _ _ _ _ _ _ ?_ (PR_w (p_again (d := d) hI))
  rintro v G1 h1 ⟨z, rfl, gk, r⟩
  have k91 : G1.2.1 91 = 9 := by rw [gk]; exact gk91 hg
  simp only [l_556, l_557, l_558, l_560, l_561, l_562, l_563, zs0, zsI, zsL, zsR, ztl1, ztl0, zc0, zcI, zcL, zcR, true_and, and_true, true_implies, false_implies, implies_true, not_true_eq_false, not_false_eq_true, and_self, Int.toNat_natCast, Nat.reduceAdd, Nat.reduceLeDiff, Nat.reduceLT, forall_eq', Option.some.injEq, zarR, zarI, zarL, zle, zq0, zq1, zq2, zq3, zq4, zq5, zq6, zq8, zq9, zq10, zq20, zq7, zq12, zq24, zq40, zq41, zq48, zq100, zq120, zq123, zq480, zq492, zq700, zq729, zq2187, zq2916, zq8748, ne_eq, Int.reduceEq, Int.reduceLT, Int.reduceLE, Int.reduceToNat, Int.reduceMul, Int.reduceAdd, Int.reduceNeg, w1 trivial, e1, k91, Nat.add_zero, c1, c2, c3, c4, c5, c6]
  refine zRunD_mono ztb zmt' (d + 16) _ _ _ _ _ _ ?_ r
  rintro v' G2 h2 ⟨rfl, I2⟩
  simp only [l_566, l_569, l_570, zs0, zsI, zsL, zsR, ztl1, ztl0, zc0, zcI, zcL, zcR, true_and, and_true, true_implies, false_implies, implies_true, not_true_eq_false, not_false_eq_true, and_self, Int.toNat_natCast, Nat.reduceAdd, Nat.reduceLeDiff, Nat.reduceLT, forall_eq', Option.some.injEq, zarR, zarI, zarL, zle, zq0, zq1, zq2, zq3, zq4, zq5, zq6, zq8, zq9, zq10, zq20, zq7, zq12, zq24, zq40, zq41, zq48, zq100, zq120, zq123, zq480, zq492, zq700, zq729, zq2187, zq2916, zq8748, ne_eq, Int.reduceEq, Int.reduceLT, Int.reduceLE, Int.reduceToNat, Int.reduceMul, Int.reduceAdd, Int.reduceNeg, zlc_eq]
  exact K G2 h2 _ _ _ _ I2 (by omega) (by omega)
theorem law_11 (hI : INV G h) (hi : i + 6 ≤ L) (hL : L ≤ 3072) (b1 : k1 + 12 ≤ 601024) (b2 : k2 + 61 ≤ 7293034) (K : ∀ (G' : zG) (h' : zM) (k1' k2' : Nat) (l5 l6 : Option zV), INV G' h' → k1' ≤ k1 + 12 → k2' ≤ k2 + 61 → zLw (d + 16) (1, L, f) Q 1351 [some (zT 1000), some (zR (some 0)), some (zR (some 91)), some (zR (some 120)), some (zI i), l5, l6] [] G' h' (k1', k2')) : zLw (d + 16) (1, L, f) Q 571 [some (zT 1000), some (zR (some 0)), some (zR (some 91)), some (zR (some 120)), some (zI i), l5, l6] [] G h (k1, k2) := by
  have hg := hI.1
  have e1 : ((i + 1 : Nat) : Int) < (L : Int) := by omega
  have e2 : ((i + 2 : Nat) : Int) < (L : Int) := by omega
  have c1 : k1 ≤ 601024 := by omega
  have c2 : k2 ≤ 7293034 := by omega
  have c3 : k1 + 11 ≤ 601024 := by omega
  have c4 : k2 + 55 ≤ 7293034 := by omega
  have c5 : k1 + 1 ≤ 601024 := by omega
  have c6 : k2 + 6 ≤ 7293034 := by omega
  have w1 : True → wr ((i : Int) + 1) = ((i + 1 : Nat) : Int) := fun _ => wrN (by omega) (by omega)
  have w2 : True → wr ((i : Int) + 2) = ((i + 2 : Nat) : Int) := fun _ => wrN (by omega) (by omega)
  simp only [l_571, l_572, l_573, l_575, l_576, l_577, l_578, l_579, l_581, l_582, l_583, l_584, zs0, zsI, zsL, zsR, ztl1, ztl0, zc0, zcI, zcL, zcR, true_and, and_true, true_implies, false_implies, implies_true, not_true_eq_false, not_false_eq_true, and_self, Int.toNat_natCast, Nat.reduceAdd, Nat.reduceLeDiff, Nat.reduceLT, forall_eq', Option.some.injEq, zarR, zarI, zarL, zle, zq0, zq1, zq2, zq3, zq4, zq5, zq6, zq8, zq9, zq10, zq20, zq7, zq12, zq24, zq40, zq41, zq48, zq100, zq120, zq123, zq480, zq492, zq700, zq729, zq2187, zq2916, zq8748, ne_eq, Int.reduceEq, Int.reduceLT, Int.reduceLE, Int.reduceToNat, Int.reduceMul, Int.reduceAdd, Int.reduceNeg, w1 trivial, e1, w2 trivial, e2, gk0 hg, Nat.add_zero, c1, c2, c3, c4, c5, c6]
  refine zRunD_mono ztb zmt' (d + 16) _ _ _ _ _ _ ?_ (PR_w (p_held (d := d) hI))
  rintro v G1 h1 ⟨z, rfl, gk, r⟩
  have k91 : G1.2.1 91 = 9 := by rw [gk]; exact gk91 hg
  simp only [l_587, l_588, l_589, l_591, l_592, l_593, l_594, l_595, l_597, l_598, l_599, l_600, zs0, zsI, zsL, zsR, ztl1, ztl0, zc0, zcI, zcL, zcR, true_and, and_true, true_implies, false_implies, implies_true, not_true_eq_false, not_false_eq_true, and_self, Int.toNat_natCast, Nat.reduceAdd, Nat.reduceLeDiff, Nat.reduceLT, forall_eq', Option.some.injEq, zarR, zarI, zarL, zle, zq0, zq1, zq2, zq3, zq4, zq5, zq6, zq8, zq9, zq10, zq20, zq7, zq12, zq24, zq40, zq41, zq48, zq100, zq120, zq123, zq480, zq492, zq700, zq729, zq2187, zq2916, zq8748, ne_eq, Int.reduceEq, Int.reduceLT, Int.reduceLE, Int.reduceToNat, Int.reduceMul, Int.reduceAdd, Int.reduceNeg, w1 trivial, e1, w2 trivial, e2, k91, Nat.add_zero, c1, c2, c3, c4, c5, c6]
  refine zRunD_mono ztb zmt' (d + 16) _ _ _ _ _ _ ?_ r
  rintro v' G2 h2 ⟨rfl, I2⟩
  simp only [l_603, l_606, l_607, zs0, zsI, zsL, zsR, ztl1, ztl0, zc0, zcI, zcL, zcR, true_and, and_true, true_implies, false_implies, implies_true, not_true_eq_false, not_false_eq_true, and_self, Int.toNat_natCast, Nat.reduceAdd, Nat.reduceLeDiff, Nat.reduceLT, forall_eq', Option.some.injEq, zarR, zarI, zarL, zle, zq0, zq1, zq2, zq3, zq4, zq5, zq6, zq8, zq9, zq10, zq20, zq7, zq12, zq24, zq40, zq41, zq48, zq100, zq120, zq123, zq480, zq492, zq700, zq729, zq2187, zq2916, zq8748, ne_eq, Int.reduceEq, Int.reduceLT, Int.reduceLE, Int.reduceToNat, Int.reduceMul, Int.reduceAdd, Int.reduceNeg, zlc_eq]
  exact K G2 h2 _ _ _ _ I2 (by omega) (by omega)
theorem law_12 (hI : INV G h) (hi : i + 6 ≤ L) (hL : L ≤ 3072) (b1 : k1 + 12 ≤ 601024) (b2 : k2 + 61 ≤ 7293034) (K : ∀ (G' : zG) (h' : zM) (k1' k2' : Nat) (l5 l6 : Option zV), INV G' h' → k1' ≤ k1 + 12 → k2' ≤ k2 + 61 → zLw (d + 16) (1, L, f) Q 1351 [some (zT 1000), some (zR (some 0)), some (zR (some 91)), some (zR (some 120)), some (zI i), l5, l6] [] G' h' (k1', k2')) : zLw (d + 16) (1, L, f) Q 608 [some (zT 1000), some (zR (some 0)), some (zR (some 91)), some (zR (some 120)), some (zI i), l5, l6] [] G h (k1, k2) := by
  have hg := hI.1
  have e1 : ((i + 1 : Nat) : Int) < (L : Int) := by omega
  have e2 : ((i + 2 : Nat) : Int) < (L : Int) := by omega
  have c1 : k1 ≤ 601024 := by omega
  have c2 : k2 ≤ 7293034 := by omega
  have c3 : k1 + 11 ≤ 601024 := by omega
  have c4 : k2 + 55 ≤ 7293034 := by omega
  have c5 : k1 + 1 ≤ 601024 := by omega
  have c6 : k2 + 6 ≤ 7293034 := by omega
  have w1 : True → wr ((i : Int) + 1) = ((i + 1 : Nat) : Int) := fun _ => wrN (by omega) (by omega)
  have w2 : True → wr ((i : Int) + 2) = ((i + 2 : Nat) : Int) := fun _ => wrN (by omega) (by omega)
  simp only [l_608, l_609, l_610, l_612, l_613, l_614, l_615, l_616, l_618, l_619, l_620, l_621, zs0, zsI, zsL, zsR, ztl1, ztl0, zc0, zcI, zcL, zcR, true_and, and_true, true_implies, false_implies, implies_true, not_true_eq_false, not_false_eq_true, and_self, Int.toNat_natCast, Nat.reduceAdd, Nat.reduceLeDiff, Nat.reduceLT, forall_eq', Option.some.injEq, zarR, zarI, zarL, zle, zq0, zq1, zq2, zq3, zq4, zq5, zq6, zq8, zq9, zq10, zq20, zq7, zq12, zq24, zq40, zq41, zq48, zq100, zq120, zq123, zq480, zq492, zq700, zq729, zq2187, zq2916, zq8748, ne_eq, Int.reduceEq, Int.reduceLT, Int.reduceLE, Int.reduceToNat, Int.reduceMul, Int.reduceAdd, Int.reduceNeg, w1 trivial, e1, w2 trivial, e2, gk0 hg, Nat.add_zero, c1, c2, c3, c4, c5, c6]
  refine zRunD_mono ztb zmt' (d + 16) _ _ _ _ _ _ ?_ (PR_w (p_earned (d := d) hI))
  rintro v G1 h1 ⟨z, rfl, gk, r⟩
  have k91 : G1.2.1 91 = 9 := by rw [gk]; exact gk91 hg
  simp only [l_624, l_625, l_626, l_628, l_629, l_630, l_631, l_632, l_634, l_635, l_636, l_637, zs0, zsI, zsL, zsR, ztl1, ztl0, zc0, zcI, zcL, zcR, true_and, and_true, true_implies, false_implies, implies_true, not_true_eq_false, not_false_eq_true, and_self, Int.toNat_natCast, Nat.reduceAdd, Nat.reduceLeDiff, Nat.reduceLT, forall_eq', Option.some.injEq, zarR, zarI, zarL, zle, zq0, zq1, zq2, zq3, zq4, zq5, zq6, zq8, zq9, zq10, zq20, zq7, zq12, zq24, zq40, zq41, zq48, zq100, zq120, zq123, zq480, zq492, zq700, zq729, zq2187, zq2916, zq8748, ne_eq, Int.reduceEq, Int.reduceLT, Int.reduceLE, Int.reduceToNat, Int.reduceMul, Int.reduceAdd, Int.reduceNeg, w1 trivial, e1, w2 trivial, e2, k91, Nat.add_zero, c1, c2, c3, c4, c5, c6]
  refine zRunD_mono ztb zmt' (d + 16) _ _ _ _ _ _ ?_ r
  rintro v' G2 h2 ⟨rfl, I2⟩
  simp only [l_640, l_641, l_644, l_645, zs0, zsI, zsL, zsR, ztl1, ztl0, zc0, zcI, zcL, zcR, true_and, and_true, true_implies, false_implies, implies_true, not_true_eq_false, not_false_eq_true, and_self, Int.toNat_natCast, Nat.reduceAdd, Nat.reduceLeDiff, Nat.reduceLT, forall_eq', Option.some.injEq, zarR, zarI, zarL, zle, zq0, zq1, zq2, zq3, zq4, zq5, zq6, zq8, zq9, zq10, zq20, zq7, zq12, zq24, zq40, zq41, zq48, zq100, zq120, zq123, zq480, zq492, zq700, zq729, zq2187, zq2916, zq8748, ne_eq, Int.reduceEq, Int.reduceLT, Int.reduceLE, Int.reduceToNat, Int.reduceMul, Int.reduceAdd, Int.reduceNeg, zlc_eq]
  exact K G2 h2 _ _ _ _ I2 (by omega) (by omega)
theorem law_13 (hI : INV G h) (hi : i + 6 ≤ L) (hL : L ≤ 3072) (b1 : k1 + 12 ≤ 601024) (b2 : k2 + 61 ≤ 7293034) (K : ∀ (G' : zG) (h' : zM) (k1' k2' : Nat) (l5 l6 : Option zV), INV G' h' → k1' ≤ k1 + 12 → k2' ≤ k2 + 61 → zLw (d + 16) (1, L, f) Q 1351 [some (zT 1000), some (zR (some 0)), some (zR (some 91)), some (zR (some 120)), some (zI i), l5, l6] [] G' h' (k1', k2')) : zLw (d + 16) (1, L, f) Q 646 [some (zT 1000), some (zR (some 0)), some (zR (some 91)), some (zR (some 120)), some (zI i), l5, l6] [] G h (k1, k2) := by
  have hg := hI.1
  have e1 : ((i + 1 : Nat) : Int) < (L : Int) := by omega
  have c1 : k1 ≤ 601024 := by omega
  have c2 : k2 ≤ 7293034 := by omega
  have c3 : k1 + 11 ≤ 601024 := by omega
  have c4 : k2 + 55 ≤ 7293034 := by omega
  have c5 : k1 + 1 ≤ 601024 := by omega
  have c6 : k2 + 6 ≤ 7293034 := by omega
  have w1 : True → wr ((i : Int) + 1) = ((i + 1 : Nat) : Int) := fun _ => wrN (by omega) (by omega)
  simp only [l_646, l_647, l_648, l_650, l_651, l_652, l_653, zs0, zsI, zsL, zsR, ztl1, ztl0, zc0, zcI, zcL, zcR, true_and, and_true, true_implies, false_implies, implies_true, not_true_eq_false, not_false_eq_true, and_self, Int.toNat_natCast, Nat.reduceAdd, Nat.reduceLeDiff, Nat.reduceLT, forall_eq', Option.some.injEq, zarR, zarI, zarL, zle, zq0, zq1, zq2, zq3, zq4, zq5, zq6, zq8, zq9, zq10, zq20, zq7, zq12, zq24, zq40, zq41, zq48, zq100, zq120, zq123, zq480, zq492, zq700, zq729, zq2187, zq2916, zq8748, ne_eq, Int.reduceEq, Int.reduceLT, Int.reduceLE, Int.reduceToNat, Int.reduceMul, Int.reduceAdd, Int.reduceNeg, w1 trivial, e1, gk0 hg, Nat.add_zero, c1, c2, c3, c4, c5, c6]
  refine zRunD_mono ztb zmt' (d + 16) _ _ _ _ _ _ ?_ (PR_w (p_rest (d := d) hI))
  rintro v G1 h1 ⟨z, rfl, gk, r⟩
  have k91 : G1.2.1 91 = 9 := by rw [gk]; exact gk91 hg
  simp only [l_656, l_657, l_658, l_660, l_661, l_662, l_663, zs0, zsI, zsL, zsR, ztl1, ztl0, zc0, zcI, zcL, zcR, true_and, and_true, true_implies, false_implies, implies_true, not_true_eq_false, not_false_eq_true, and_self, Int.toNat_natCast, Nat.reduceAdd, Nat.reduceLeDiff, Nat.reduceLT, forall_eq', Option.some.injEq, zarR, zarI, zarL, zle, zq0, zq1, zq2, zq3, zq4, zq5, zq6, zq8, zq9, zq10, zq20, zq7, zq12, zq24, zq40, zq41, zq48, zq100, zq120, zq123, zq480, zq492, zq700, zq729, zq2187, zq2916, zq8748, ne_eq, Int.reduceEq, Int.reduceLT, Int.reduceLE, Int.reduceToNat, Int.reduceMul, Int.reduceAdd, Int.reduceNeg, w1 trivial, e1, k91, Nat.add_zero, c1, c2, c3, c4, c5, c6]
  refine zRunD_mono ztb zmt' (d + 16) _ _ _ _ _ _ ?_ r
  rintro v' G2 h2 ⟨rfl, I2⟩
  simp only [l_666, l_669, l_670, zs0, zsI, zsL, zsR, ztl1, ztl0, zc0, zcI, zcL, zcR, true_and, and_true, true_implies, false_implies, implies_true, not_true_eq_false, not_false_eq_true, and_self, Int.toNat_natCast, Nat.reduceAdd, Nat.reduceLeDiff, Nat.reduceLT, forall_eq', Option.some.injEq, zarR, zarI, zarL, zle, zq0, zq1, zq2, zq3, zq4, zq5, zq6, zq8, zq9, zq10, zq20, zq7, zq12, zq24, zq40, zq41, zq48, zq100, zq120, zq123, zq480, zq492, zq700, zq729, zq2187, zq2916, zq8748, ne_eq, Int.reduceEq, Int.reduceLT, Int.reduceLE, Int.reduceToNat, Int.reduceMul, Int.reduceAdd, Int.reduceNeg, zlc_eq]
  exact K G2 h2 _ _ _ _ I2 (by omega) (by omega)
theorem law_14 (hI : INV G h) (hi : i + 6 ≤ L) (hL : L ≤ 3072) (b1 : k1 + 12 ≤ 601024) (b2 : k2 + 61 ≤ 7293034) (K : ∀ (G' : zG) (h' : zM) (k1' k2' : Nat) (l5 l6 : Option zV), INV G' h' → k1' ≤ k1 + 12 → k2' ≤ k2 + 61 → zLw (d + 16) (1, L, f) Q 1351 [some (zT 1000), some (zR (some 0)), some (zR (some 91)), some (zR (some 120)), some (zI i), l5, l6] [] G' h' (k1', k2')) : zLw (d + 16) (1, L, f) Q 671 [some (zT 1000), some (zR (some 0)), some (zR (some 91)), some (zR (some 120)), some (zI i), l5, l6] [] G h (k1, k2) := by
  have hg := hI.1
  have e1 : ((i + 1 : Nat) : Int) < (L : Int) := by omega
  have e2 : ((i + 2 : Nat) : Int) < (L : Int) := by omega
  have c1 : k1 ≤ 601024 := by omega
  have c2 : k2 ≤ 7293034 := by omega
  have c3 : k1 + 11 ≤ 601024 := by omega
  have c4 : k2 + 55 ≤ 7293034 := by omega
  have c5 : k1 + 1 ≤ 601024 := by omega
  have c6 : k2 + 6 ≤ 7293034 := by omega
  have w1 : True → wr ((i : Int) + 1) = ((i + 1 : Nat) : Int) := fun _ => wrN (by omega) (by omega)
  have w2 : True → wr ((i : Int) + 2) = ((i + 2 : Nat) : Int) := fun _ => wrN (by omega) (by omega)
  simp only [l_671, l_672, l_673, l_675, l_676, l_677, l_678, l_679, l_681, l_682, l_683, l_684, zs0, zsI, zsL, zsR, ztl1, ztl0, zc0, zcI, zcL, zcR, true_and, and_true, true_implies, false_implies, implies_true, not_true_eq_false, not_false_eq_true, and_self, Int.toNat_natCast, Nat.reduceAdd, Nat.reduceLeDiff, Nat.reduceLT, forall_eq', Option.some.injEq, zarR, zarI, zarL, zle, zq0, zq1, zq2, zq3, zq4, zq5, zq6, zq8, zq9, zq10, zq20, zq7, zq12, zq24, zq40, zq41, zq48, zq100, zq120, zq123, zq480, zq492, zq700, zq729, zq2187, zq2916, zq8748, ne_eq, Int.reduceEq, Int.reduceLT, Int.reduceLE, Int.reduceToNat, Int.reduceMul, Int.reduceAdd, Int.reduceNeg, w1 trivial, e1, w2 trivial, e2, gk0 hg, Nat.add_zero, c1, c2, c3, c4, c5, c6]
  refine zRunD_mono ztb zmt' (d + 16) _ _ _ _ _ _ ?_ (PR_w (p_act (d := d) hI))
  rintro v G1 h1 ⟨z, rfl, gk, r⟩
  have k91 : G1.2.1 91 = 9 := by rw [gk]; exact gk91 hg
  simp only [l_687, l_688, l_689, l_691, l_692, l_693, l_694, l_695, l_697, l_698, l_699, l_700, zs0, zsI, zsL, zsR, ztl1, ztl0, zc0, zcI, zcL, zcR, true_and, and_true, true_implies, false_implies, implies_true, not_true_eq_false, not_false_eq_true, and_self, Int.toNat_natCast, Nat.reduceAdd, Nat.reduceLeDiff, Nat.reduceLT, forall_eq', Option.some.injEq, zarR, zarI, zarL, zle, zq0, zq1, zq2, zq3, zq4, zq5, zq6, zq8, zq9, zq10, zq20, zq7, zq12, zq24, zq40, zq41, zq48, zq100, zq120, zq123, zq480, zq492, zq700, zq729, zq2187, zq2916, zq8748, ne_eq, Int.reduceEq, Int.reduceLT, Int.reduceLE, Int.reduceToNat, Int.reduceMul, Int.reduceAdd, Int.reduceNeg, w1 trivial, e1, w2 trivial, e2, k91, Nat.add_zero, c1, c2, c3, c4, c5, c6]
  refine zRunD_mono ztb zmt' (d + 16) _ _ _ _ _ _ ?_ r
  rintro v' G2 h2 ⟨rfl, I2⟩
  simp only [l_703, l_706, l_707, zs0, zsI, zsL, zsR, ztl1, ztl0, zc0, zcI, zcL, zcR, true_and, and_true, true_implies, false_implies, implies_true, not_true_eq_false, not_false_eq_true, and_self, Int.toNat_natCast, Nat.reduceAdd, Nat.reduceLeDiff, Nat.reduceLT, forall_eq', Option.some.injEq, zarR, zarI, zarL, zle, zq0, zq1, zq2, zq3, zq4, zq5, zq6, zq8, zq9, zq10, zq20, zq7, zq12, zq24, zq40, zq41, zq48, zq100, zq120, zq123, zq480, zq492, zq700, zq729, zq2187, zq2916, zq8748, ne_eq, Int.reduceEq, Int.reduceLT, Int.reduceLE, Int.reduceToNat, Int.reduceMul, Int.reduceAdd, Int.reduceNeg, zlc_eq]
  exact K G2 h2 _ _ _ _ I2 (by omega) (by omega)
theorem law_15 (hI : INV G h) (hi : i + 6 ≤ L) (hL : L ≤ 3072) (b1 : k1 + 12 ≤ 601024) (b2 : k2 + 61 ≤ 7293034) (K : ∀ (G' : zG) (h' : zM) (k1' k2' : Nat) (l5 l6 : Option zV), INV G' h' → k1' ≤ k1 + 12 → k2' ≤ k2 + 61 → zLw (d + 16) (1, L, f) Q 1351 [some (zT 1000), some (zR (some 0)), some (zR (some 91)), some (zR (some 120)), some (zI i), l5, l6] [] G' h' (k1', k2')) : zLw (d + 16) (1, L, f) Q 708 [some (zT 1000), some (zR (some 0)), some (zR (some 91)), some (zR (some 120)), some (zI i), l5, l6] [] G h (k1, k2) := by
  have hg := hI.1
  have e1 : ((i + 1 : Nat) : Int) < (L : Int) := by omega
  have c1 : k1 ≤ 601024 := by omega
  have c2 : k2 ≤ 7293034 := by omega
  have c3 : k1 + 11 ≤ 601024 := by omega
  have c4 : k2 + 55 ≤ 7293034 := by omega
  have c5 : k1 + 1 ≤ 601024 := by omega
  have c6 : k2 + 6 ≤ 7293034 := by omega
  have w1 : True → wr ((i : Int) + 1) = ((i + 1 : Nat) : Int) := fun _ => wrN (by omega) (by omega)
  simp only [l_708, l_709, l_710, l_712, l_713, l_714, l_715, zs0, zsI, zsL, zsR, ztl1, ztl0, zc0, zcI, zcL, zcR, true_and, and_true, true_implies, false_implies, implies_true, not_true_eq_false, not_false_eq_true, and_self, Int.toNat_natCast, Nat.reduceAdd, Nat.reduceLeDiff, Nat.reduceLT, forall_eq', Option.some.injEq, zarR, zarI, zarL, zle, zq0, zq1, zq2, zq3, zq4, zq5, zq6, zq8, zq9, zq10, zq20, zq7, zq12, zq24, zq40, zq41, zq48, zq100, zq120, zq123, zq480, zq492, zq700, zq729, zq2187, zq2916, zq8748, ne_eq, Int.reduceEq, Int.reduceLT, Int.reduceLE, Int.reduceToNat, Int.reduceMul, Int.reduceAdd, Int.reduceNeg, w1 trivial, e1, gk0 hg, Nat.add_zero, c1, c2, c3, c4, c5, c6]
  refine zRunD_mono ztb zmt' (d + 16) _ _ _ _ _ _ ?_ (PR_w (p_worth (d := d) hI))
  rintro v G1 h1 ⟨z, rfl, gk, r⟩
  have k91 : G1.2.1 91 = 9 := by rw [gk]; exact gk91 hg
  simp only [l_718, l_719, l_720, l_722, l_723, l_724, l_725, zs0, zsI, zsL, zsR, ztl1, ztl0, zc0, zcI, zcL, zcR, true_and, and_true, true_implies, false_implies, implies_true, not_true_eq_false, not_false_eq_true, and_self, Int.toNat_natCast, Nat.reduceAdd, Nat.reduceLeDiff, Nat.reduceLT, forall_eq', Option.some.injEq, zarR, zarI, zarL, zle, zq0, zq1, zq2, zq3, zq4, zq5, zq6, zq8, zq9, zq10, zq20, zq7, zq12, zq24, zq40, zq41, zq48, zq100, zq120, zq123, zq480, zq492, zq700, zq729, zq2187, zq2916, zq8748, ne_eq, Int.reduceEq, Int.reduceLT, Int.reduceLE, Int.reduceToNat, Int.reduceMul, Int.reduceAdd, Int.reduceNeg, w1 trivial, e1, k91, Nat.add_zero, c1, c2, c3, c4, c5, c6]
  refine zRunD_mono ztb zmt' (d + 16) _ _ _ _ _ _ ?_ r
  rintro v' G2 h2 ⟨rfl, I2⟩
  simp only [l_728, l_729, l_732, l_733, zs0, zsI, zsL, zsR, ztl1, ztl0, zc0, zcI, zcL, zcR, true_and, and_true, true_implies, false_implies, implies_true, not_true_eq_false, not_false_eq_true, and_self, Int.toNat_natCast, Nat.reduceAdd, Nat.reduceLeDiff, Nat.reduceLT, forall_eq', Option.some.injEq, zarR, zarI, zarL, zle, zq0, zq1, zq2, zq3, zq4, zq5, zq6, zq8, zq9, zq10, zq20, zq7, zq12, zq24, zq40, zq41, zq48, zq100, zq120, zq123, zq480, zq492, zq700, zq729, zq2187, zq2916, zq8748, ne_eq, Int.reduceEq, Int.reduceLT, Int.reduceLE, Int.reduceToNat, Int.reduceMul, Int.reduceAdd, Int.reduceNeg, zlc_eq]
  exact K G2 h2 _ _ _ _ I2 (by omega) (by omega)
theorem law_16 (hI : INV G h) (hi : i + 6 ≤ L) (hL : L ≤ 3072) (b1 : k1 + 12 ≤ 601024) (b2 : k2 + 61 ≤ 7293034) (K : ∀ (G' : zG) (h' : zM) (k1' k2' : Nat) (l5 l6 : Option zV), INV G' h' → k1' ≤ k1 + 12 → k2' ≤ k2 + 61 → zLw (d + 16) (1, L, f) Q 1351 [some (zT 1000), some (zR (some 0)), some (zR (some 91)), some (zR (some 120)), some (zI i), l5, l6] [] G' h' (k1', k2')) : zLw (d + 16) (1, L, f) Q 734 [some (zT 1000), some (zR (some 0)), some (zR (some 91)), some (zR (some 120)), some (zI i), l5, l6] [] G h (k1, k2) := by
  have hg := hI.1
  have e1 : ((i + 1 : Nat) : Int) < (L : Int) := by omega
  have c1 : k1 ≤ 601024 := by omega
  have c2 : k2 ≤ 7293034 := by omega
  have c3 : k1 + 11 ≤ 601024 := by omega
  have c4 : k2 + 55 ≤ 7293034 := by omega
  have c5 : k1 + 1 ≤ 601024 := by omega
  have c6 : k2 + 6 ≤ 7293034 := by omega
  have w1 : True → wr ((i : Int) + 1) = ((i + 1 : Nat) : Int) := fun _ => wrN (by omega) (by omega)
  simp only [l_734, l_735, l_736, l_738, l_739, l_740, l_741, zs0, zsI, zsL, zsR, ztl1, ztl0, zc0, zcI, zcL, zcR, true_and, and_true, true_implies, false_implies, implies_true, not_true_eq_false, not_false_eq_true, and_self, Int.toNat_natCast, Nat.reduceAdd, Nat.reduceLeDiff, Nat.reduceLT, forall_eq', Option.some.injEq, zarR, zarI, zarL, zle, zq0, zq1, zq2, zq3, zq4, zq5, zq6, zq8, zq9, zq10, zq20, zq7, zq12, zq24, zq40, zq41, zq48, zq100, zq120, zq123, zq480, zq492, zq700, zq729, zq2187, zq2916, zq8748, ne_eq, Int.reduceEq, Int.reduceLT, Int.reduceLE, Int.reduceToNat, Int.reduceMul, Int.reduceAdd, Int.reduceNeg, w1 trivial, e1, gk0 hg, Nat.add_zero, c1, c2, c3, c4, c5, c6]
  refine zRunD_mono ztb zmt' (d + 16) _ _ _ _ _ _ ?_ (PR_w (p_gain (d := d) hI))
  rintro v G1 h1 ⟨z, rfl, gk, r⟩
  have k91 : G1.2.1 91 = 9 := by rw [gk]; exact gk91 hg
  simp only [l_744, l_745, l_746, l_748, l_749, l_750, l_751, zs0, zsI, zsL, zsR, ztl1, ztl0, zc0, zcI, zcL, zcR, true_and, and_true, true_implies, false_implies, implies_true, not_true_eq_false, not_false_eq_true, and_self, Int.toNat_natCast, Nat.reduceAdd, Nat.reduceLeDiff, Nat.reduceLT, forall_eq', Option.some.injEq, zarR, zarI, zarL, zle, zq0, zq1, zq2, zq3, zq4, zq5, zq6, zq8, zq9, zq10, zq20, zq7, zq12, zq24, zq40, zq41, zq48, zq100, zq120, zq123, zq480, zq492, zq700, zq729, zq2187, zq2916, zq8748, ne_eq, Int.reduceEq, Int.reduceLT, Int.reduceLE, Int.reduceToNat, Int.reduceMul, Int.reduceAdd, Int.reduceNeg, w1 trivial, e1, k91, Nat.add_zero, c1, c2, c3, c4, c5, c6]
  refine zRunD_mono ztb zmt' (d + 16) _ _ _ _ _ _ ?_ r
  rintro v' G2 h2 ⟨rfl, I2⟩
  simp only [l_754, l_755, l_758, l_759, zs0, zsI, zsL, zsR, ztl1, ztl0, zc0, zcI, zcL, zcR, true_and, and_true, true_implies, false_implies, implies_true, not_true_eq_false, not_false_eq_true, and_self, Int.toNat_natCast, Nat.reduceAdd, Nat.reduceLeDiff, Nat.reduceLT, forall_eq', Option.some.injEq, zarR, zarI, zarL, zle, zq0, zq1, zq2, zq3, zq4, zq5, zq6, zq8, zq9, zq10, zq20, zq7, zq12, zq24, zq40, zq41, zq48, zq100, zq120, zq123, zq480, zq492, zq700, zq729, zq2187, zq2916, zq8748, ne_eq, Int.reduceEq, Int.reduceLT, Int.reduceLE, Int.reduceToNat, Int.reduceMul, Int.reduceAdd, Int.reduceNeg, zlc_eq]
  exact K G2 h2 _ _ _ _ I2 (by omega) (by omega)
theorem law_17 (hI : INV G h) (hi : i + 6 ≤ L) (hL : L ≤ 3072) (b1 : k1 + 12 ≤ 601024) (b2 : k2 + 61 ≤ 7293034) (K : ∀ (G' : zG) (h' : zM) (k1' k2' : Nat) (l5 l6 : Option zV), INV G' h' → k1' ≤ k1 + 12 → k2' ≤ k2 + 61 → zLw (d + 16) (1, L, f) Q 1351 [some (zT 1000), some (zR (some 0)), some (zR (some 91)), some (zR (some 120)), some (zI i), l5, l6] [] G' h' (k1', k2')) : zLw (d + 16) (1, L, f) Q 760 [some (zT 1000), some (zR (some 0)), some (zR (some 91)), some (zR (some 120)), some (zI i), l5, l6] [] G h (k1, k2) := by
  have hg := hI.1
  have e1 : ((i + 1 : Nat) : Int) < (L : Int) := by omega
  have c1 : k1 ≤ 601024 := by omega
  have c2 : k2 ≤ 7293034 := by omega
  have c3 : k1 + 11 ≤ 601024 := by omega
  have c4 : k2 + 55 ≤ 7293034 := by omega
  have c5 : k1 + 1 ≤ 601024 := by omega
  have c6 : k2 + 6 ≤ 7293034 := by omega
  have w1 : True → wr ((i : Int) + 1) = ((i + 1 : Nat) : Int) := fun _ => wrN (by omega) (by omega)
  simp only [l_760, l_761, l_762, l_764, l_765, l_766, l_767, zs0, zsI, zsL, zsR, ztl1, ztl0, zc0, zcI, zcL, zcR, true_and, and_true, true_implies, false_implies, implies_true, not_true_eq_false, not_false_eq_true, and_self, Int.toNat_natCast, Nat.reduceAdd, Nat.reduceLeDiff, Nat.reduceLT, forall_eq', Option.some.injEq, zarR, zarI, zarL, zle, zq0, zq1, zq2, zq3, zq4, zq5, zq6, zq8, zq9, zq10, zq20, zq7, zq12, zq24, zq40, zq41, zq48, zq100, zq120, zq123, zq480, zq492, zq700, zq729, zq2187, zq2916, zq8748, ne_eq, Int.reduceEq, Int.reduceLT, Int.reduceLE, Int.reduceToNat, Int.reduceMul, Int.reduceAdd, Int.reduceNeg, w1 trivial, e1, gk0 hg, Nat.add_zero, c1, c2, c3, c4, c5, c6]
  refine zRunD_mono ztb zmt' (d + 16) _ _ _ _ _ _ ?_ (PR_w (p_best (d := d) hI))
  rintro v G1 h1 ⟨z, rfl, gk, r⟩
  have k91 : G1.2.1 91 = 9 := by rw [gk]; exact gk91 hg
  simp only [l_770, l_771, l_772, l_774, l_775, l_776, l_777, zs0, zsI, zsL, zsR, ztl1, ztl0, zc0, zcI, zcL, zcR, true_and, and_true, true_implies, false_implies, implies_true, not_true_eq_false, not_false_eq_true, and_self, Int.toNat_natCast, Nat.reduceAdd, Nat.reduceLeDiff, Nat.reduceLT, forall_eq', Option.some.injEq, zarR, zarI, zarL, zle, zq0, zq1, zq2, zq3, zq4, zq5, zq6, zq8, zq9, zq10, zq20, zq7, zq12, zq24, zq40, zq41, zq48, zq100, zq120, zq123, zq480, zq492, zq700, zq729, zq2187, zq2916, zq8748, ne_eq, Int.reduceEq, Int.reduceLT, Int.reduceLE, Int.reduceToNat, Int.reduceMul, Int.reduceAdd, Int.reduceNeg, w1 trivial, e1, k91, Nat.add_zero, c1, c2, c3, c4, c5, c6]
  refine zRunD_mono ztb zmt' (d + 16) _ _ _ _ _ _ ?_ r
  rintro v' G2 h2 ⟨rfl, I2⟩
  simp only [l_780, l_783, l_784, zs0, zsI, zsL, zsR, ztl1, ztl0, zc0, zcI, zcL, zcR, true_and, and_true, true_implies, false_implies, implies_true, not_true_eq_false, not_false_eq_true, and_self, Int.toNat_natCast, Nat.reduceAdd, Nat.reduceLeDiff, Nat.reduceLT, forall_eq', Option.some.injEq, zarR, zarI, zarL, zle, zq0, zq1, zq2, zq3, zq4, zq5, zq6, zq8, zq9, zq10, zq20, zq7, zq12, zq24, zq40, zq41, zq48, zq100, zq120, zq123, zq480, zq492, zq700, zq729, zq2187, zq2916, zq8748, ne_eq, Int.reduceEq, Int.reduceLT, Int.reduceLE, Int.reduceToNat, Int.reduceMul, Int.reduceAdd, Int.reduceNeg, zlc_eq]
  exact K G2 h2 _ _ _ _ I2 (by omega) (by omega)
theorem law_18 (hI : INV G h) (hi : i + 6 ≤ L) (hL : L ≤ 3072) (b1 : k1 + 12 ≤ 601024) (b2 : k2 + 61 ≤ 7293034) (K : ∀ (G' : zG) (h' : zM) (k1' k2' : Nat) (l5 l6 : Option zV), INV G' h' → k1' ≤ k1 + 12 → k2' ≤ k2 + 61 → zLw (d + 16) (1, L, f) Q 1351 [some (zT 1000), some (zR (some 0)), some (zR (some 91)), some (zR (some 120)), some (zI i), l5, l6] [] G' h' (k1', k2')) : zLw (d + 16) (1, L, f) Q 785 [some (zT 1000), some (zR (some 0)), some (zR (some 91)), some (zR (some 120)), some (zI i), l5, l6] [] G h (k1, k2) := by
  have hg := hI.1
  have e1 : ((i + 1 : Nat) : Int) < (L : Int) := by omega
  have e2 : ((i + 2 : Nat) : Int) < (L : Int) := by omega
  have e3 : ((i + 3 : Nat) : Int) < (L : Int) := by omega
  have c1 : k1 ≤ 601024 := by omega
  have c2 : k2 ≤ 7293034 := by omega
  have c3 : k1 + 11 ≤ 601024 := by omega
  have c4 : k2 + 55 ≤ 7293034 := by omega
  have c5 : k1 + 1 ≤ 601024 := by omega
  have c6 : k2 + 6 ≤ 7293034 := by omega
  have w1 : True → wr ((i : Int) + 1) = ((i + 1 : Nat) : Int) := fun _ => wrN (by omega) (by omega)
  have w2 : True → wr ((i : Int) + 2) = ((i + 2 : Nat) : Int) := fun _ => wrN (by omega) (by omega)
  have w3 : True → wr ((i : Int) + 3) = ((i + 3 : Nat) : Int) := fun _ => wrN (by omega) (by omega)
  simp only [l_785, l_786, l_787, l_789, l_790, l_791, l_792, l_793, l_795, l_796, l_797, l_798, l_799, l_801, l_802, l_803, l_804, zs0, zsI, zsL, zsR, ztl1, ztl0, zc0, zcI, zcL, zcR, true_and, and_true, true_implies, false_implies, implies_true, not_true_eq_false, not_false_eq_true, and_self, Int.toNat_natCast, Nat.reduceAdd, Nat.reduceLeDiff, Nat.reduceLT, forall_eq', Option.some.injEq, zarR, zarI, zarL, zle, zq0, zq1, zq2, zq3, zq4, zq5, zq6, zq8, zq9, zq10, zq20, zq7, zq12, zq24, zq40, zq41, zq48, zq100, zq120, zq123, zq480, zq492, zq700, zq729, zq2187, zq2916, zq8748, ne_eq, Int.reduceEq, Int.reduceLT, Int.reduceLE, Int.reduceToNat, Int.reduceMul, Int.reduceAdd, Int.reduceNeg, w1 trivial, e1, w2 trivial, e2, w3 trivial, e3, gk0 hg, Nat.add_zero, c1, c2, c3, c4, c5, c6]
  refine zRunD_mono ztb zmt' (d + 16) _ _ _ _ _ _ ?_ (PR_w (p_paid (d := d) hI))
  rintro v G1 h1 ⟨z, rfl, gk, r⟩
  have k91 : G1.2.1 91 = 9 := by rw [gk]; exact gk91 hg
  simp only [l_807, l_808, l_809, l_811, l_812, l_813, l_814, l_815, l_817, l_818, l_819, l_820, l_821, l_823, l_824, l_825, l_826, zs0, zsI, zsL, zsR, ztl1, ztl0, zc0, zcI, zcL, zcR, true_and, and_true, true_implies, false_implies, implies_true, not_true_eq_false, not_false_eq_true, and_self, Int.toNat_natCast, Nat.reduceAdd, Nat.reduceLeDiff, Nat.reduceLT, forall_eq', Option.some.injEq, zarR, zarI, zarL, zle, zq0, zq1, zq2, zq3, zq4, zq5, zq6, zq8, zq9, zq10, zq20, zq7, zq12, zq24, zq40, zq41, zq48, zq100, zq120, zq123, zq480, zq492, zq700, zq729, zq2187, zq2916, zq8748, ne_eq, Int.reduceEq, Int.reduceLT, Int.reduceLE, Int.reduceToNat, Int.reduceMul, Int.reduceAdd, Int.reduceNeg, w1 trivial, e1, w2 trivial, e2, w3 trivial, e3, k91, Nat.add_zero, c1, c2, c3, c4, c5, c6]
  refine zRunD_mono ztb zmt' (d + 16) _ _ _ _ _ _ ?_ r
  rintro v' G2 h2 ⟨rfl, I2⟩
  simp only [l_829, l_830, l_833, l_834, zs0, zsI, zsL, zsR, ztl1, ztl0, zc0, zcI, zcL, zcR, true_and, and_true, true_implies, false_implies, implies_true, not_true_eq_false, not_false_eq_true, and_self, Int.toNat_natCast, Nat.reduceAdd, Nat.reduceLeDiff, Nat.reduceLT, forall_eq', Option.some.injEq, zarR, zarI, zarL, zle, zq0, zq1, zq2, zq3, zq4, zq5, zq6, zq8, zq9, zq10, zq20, zq7, zq12, zq24, zq40, zq41, zq48, zq100, zq120, zq123, zq480, zq492, zq700, zq729, zq2187, zq2916, zq8748, ne_eq, Int.reduceEq, Int.reduceLT, Int.reduceLE, Int.reduceToNat, Int.reduceMul, Int.reduceAdd, Int.reduceNeg, zlc_eq]
  exact K G2 h2 _ _ _ _ I2 (by omega) (by omega)
theorem law_19 (hI : INV G h) (hi : i + 6 ≤ L) (hL : L ≤ 3072) (b1 : k1 + 12 ≤ 601024) (b2 : k2 + 61 ≤ 7293034) (K : ∀ (G' : zG) (h' : zM) (k1' k2' : Nat) (l5 l6 : Option zV), INV G' h' → k1' ≤ k1 + 12 → k2' ≤ k2 + 61 → zLw (d + 16) (1, L, f) Q 1351 [some (zT 1000), some (zR (some 0)), some (zR (some 91)), some (zR (some 120)), some (zI i), l5, l6] [] G' h' (k1', k2')) : zLw (d + 16) (1, L, f) Q 835 [some (zT 1000), some (zR (some 0)), some (zR (some 91)), some (zR (some 120)), some (zI i), l5, l6] [] G h (k1, k2) := by
  have hg := hI.1
  have e1 : ((i + 1 : Nat) : Int) < (L : Int) := by omega
  have e2 : ((i + 2 : Nat) : Int) < (L : Int) := by omega
  have e3 : ((i + 3 : Nat) : Int) < (L : Int) := by omega
  have c1 : k1 ≤ 601024 := by omega
  have c2 : k2 ≤ 7293034 := by omega
  have c3 : k1 + 11 ≤ 601024 := by omega
  have c4 : k2 + 55 ≤ 7293034 := by omega
  have c5 : k1 + 1 ≤ 601024 := by omega
  have c6 : k2 + 6 ≤ 7293034 := by omega
  have w1 : True → wr ((i : Int) + 1) = ((i + 1 : Nat) : Int) := fun _ => wrN (by omega) (by omega)
  have w2 : True → wr ((i : Int) + 2) = ((i + 2 : Nat) : Int) := fun _ => wrN (by omega) (by omega)
  have w3 : True → wr ((i : Int) + 3) = ((i + 3 : Nat) : Int) := fun _ => wrN (by omega) (by omega)
  simp only [l_835, l_836, l_837, l_839, l_840, l_841, l_842, l_843, l_845, l_846, l_847, l_848, l_849, l_851, l_852, l_853, l_854, zs0, zsI, zsL, zsR, ztl1, ztl0, zc0, zcI, zcL, zcR, true_and, and_true, true_implies, false_implies, implies_true, not_true_eq_false, not_false_eq_true, and_self, Int.toNat_natCast, Nat.reduceAdd, Nat.reduceLeDiff, Nat.reduceLT, forall_eq', Option.some.injEq, zarR, zarI, zarL, zle, zq0, zq1, zq2, zq3, zq4, zq5, zq6, zq8, zq9, zq10, zq20, zq7, zq12, zq24, zq40, zq41, zq48, zq100, zq120, zq123, zq480, zq492, zq700, zq729, zq2187, zq2916, zq8748, ne_eq, Int.reduceEq, Int.reduceLT, Int.reduceLE, Int.reduceToNat, Int.reduceMul, Int.reduceAdd, Int.reduceNeg, w1 trivial, e1, w2 trivial, e2, w3 trivial, e3, gk0 hg, Nat.add_zero, c1, c2, c3, c4, c5, c6]
  refine zRunD_mono ztb zmt' (d + 16) _ _ _ _ _ _ ?_ (PR_w (p_leavings (d := d) hI))
  rintro v G1 h1 ⟨z, rfl, gk, r⟩
  have k91 : G1.2.1 91 = 9 := by rw [gk]; exact gk91 hg
  simp only [l_857, l_858, l_859, l_861, l_862, l_863, l_864, l_865, l_867, l_868, l_869, l_870, l_871, l_873, l_874, l_875, l_876, zs0, zsI, zsL, zsR, ztl1, ztl0, zc0, zcI, zcL, zcR, true_and, and_true, true_implies, false_implies, implies_true, not_true_eq_false, not_false_eq_true, and_self, Int.toNat_natCast, Nat.reduceAdd, Nat.reduceLeDiff, Nat.reduceLT, forall_eq', Option.some.injEq, zarR, zarI, zarL, zle, zq0, zq1, zq2, zq3, zq4, zq5, zq6, zq8, zq9, zq10, zq20, zq7, zq12, zq24, zq40, zq41, zq48, zq100, zq120, zq123, zq480, zq492, zq700, zq729, zq2187, zq2916, zq8748, ne_eq, Int.reduceEq, Int.reduceLT, Int.reduceLE, Int.reduceToNat, Int.reduceMul, Int.reduceAdd, Int.reduceNeg, w1 trivial, e1, w2 trivial, e2, w3 trivial, e3, k91, Nat.add_zero, c1, c2, c3, c4, c5, c6]
  refine zRunD_mono ztb zmt' (d + 16) _ _ _ _ _ _ ?_ r
  rintro v' G2 h2 ⟨rfl, I2⟩
  simp only [l_879, l_880, l_883, l_884, zs0, zsI, zsL, zsR, ztl1, ztl0, zc0, zcI, zcL, zcR, true_and, and_true, true_implies, false_implies, implies_true, not_true_eq_false, not_false_eq_true, and_self, Int.toNat_natCast, Nat.reduceAdd, Nat.reduceLeDiff, Nat.reduceLT, forall_eq', Option.some.injEq, zarR, zarI, zarL, zle, zq0, zq1, zq2, zq3, zq4, zq5, zq6, zq8, zq9, zq10, zq20, zq7, zq12, zq24, zq40, zq41, zq48, zq100, zq120, zq123, zq480, zq492, zq700, zq729, zq2187, zq2916, zq8748, ne_eq, Int.reduceEq, Int.reduceLT, Int.reduceLE, Int.reduceToNat, Int.reduceMul, Int.reduceAdd, Int.reduceNeg, zlc_eq]
  exact K G2 h2 _ _ _ _ I2 (by omega) (by omega)
theorem law_20 (hI : INV G h) (hi : i + 6 ≤ L) (hL : L ≤ 3072) (b1 : k1 + 12 ≤ 601024) (b2 : k2 + 61 ≤ 7293034) (K : ∀ (G' : zG) (h' : zM) (k1' k2' : Nat) (l5 l6 : Option zV), INV G' h' → k1' ≤ k1 + 12 → k2' ≤ k2 + 61 → zLw (d + 16) (1, L, f) Q 1351 [some (zT 1000), some (zR (some 0)), some (zR (some 91)), some (zR (some 120)), some (zI i), l5, l6] [] G' h' (k1', k2')) : zLw (d + 16) (1, L, f) Q 885 [some (zT 1000), some (zR (some 0)), some (zR (some 91)), some (zR (some 120)), some (zI i), l5, l6] [] G h (k1, k2) := by
  have hg := hI.1
  have e1 : ((i + 1 : Nat) : Int) < (L : Int) := by omega
  have e2 : ((i + 2 : Nat) : Int) < (L : Int) := by omega
  have c1 : k1 ≤ 601024 := by omega
  have c2 : k2 ≤ 7293034 := by omega
  have c3 : k1 + 11 ≤ 601024 := by omega
  have c4 : k2 + 55 ≤ 7293034 := by omega
  have c5 : k1 + 1 ≤ 601024 := by omega
  have c6 : k2 + 6 ≤ 7293034 := by omega
  have w1 : True → wr ((i : Int) + 1) = ((i + 1 : Nat) : Int) := fun _ => wrN (by omega) (by omega)
  have w2 : True → wr ((i : Int) + 2) = ((i + 2 : Nat) : Int) := fun _ => wrN (by omega) (by omega)
  simp only [l_885, l_886, l_887, l_889, l_890, l_891, l_892, l_893, l_895, l_896, l_897, l_898, zs0, zsI, zsL, zsR, ztl1, ztl0, zc0, zcI, zcL, zcR, true_and, and_true, true_implies, false_implies, implies_true, not_true_eq_false, not_false_eq_true, and_self, Int.toNat_natCast, Nat.reduceAdd, Nat.reduceLeDiff, Nat.reduceLT, forall_eq', Option.some.injEq, zarR, zarI, zarL, zle, zq0, zq1, zq2, zq3, zq4, zq5, zq6, zq8, zq9, zq10, zq20, zq7, zq12, zq24, zq40, zq41, zq48, zq100, zq120, zq123, zq480, zq492, zq700, zq729, zq2187, zq2916, zq8748, ne_eq, Int.reduceEq, Int.reduceLT, Int.reduceLE, Int.reduceToNat, Int.reduceMul, Int.reduceAdd, Int.reduceNeg, w1 trivial, e1, w2 trivial, e2, gk0 hg, Nat.add_zero, c1, c2, c3, c4, c5, c6]
  refine zRunD_mono ztb zmt' (d + 16) _ _ _ _ _ _ ?_ (PR_w (p_kindest (d := d) hI))
  rintro v G1 h1 ⟨z, rfl, gk, r⟩
  have k91 : G1.2.1 91 = 9 := by rw [gk]; exact gk91 hg
  simp only [l_901, l_902, l_903, l_905, l_906, l_907, l_908, l_909, l_911, l_912, l_913, l_914, zs0, zsI, zsL, zsR, ztl1, ztl0, zc0, zcI, zcL, zcR, true_and, and_true, true_implies, false_implies, implies_true, not_true_eq_false, not_false_eq_true, and_self, Int.toNat_natCast, Nat.reduceAdd, Nat.reduceLeDiff, Nat.reduceLT, forall_eq', Option.some.injEq, zarR, zarI, zarL, zle, zq0, zq1, zq2, zq3, zq4, zq5, zq6, zq8, zq9, zq10, zq20, zq7, zq12, zq24, zq40, zq41, zq48, zq100, zq120, zq123, zq480, zq492, zq700, zq729, zq2187, zq2916, zq8748, ne_eq, Int.reduceEq, Int.reduceLT, Int.reduceLE, Int.reduceToNat, Int.reduceMul, Int.reduceAdd, Int.reduceNeg, w1 trivial, e1, w2 trivial, e2, k91, Nat.add_zero, c1, c2, c3, c4, c5, c6]
  refine zRunD_mono ztb zmt' (d + 16) _ _ _ _ _ _ ?_ r
  rintro v' G2 h2 ⟨rfl, I2⟩
  simp only [l_917, l_920, l_921, zs0, zsI, zsL, zsR, ztl1, ztl0, zc0, zcI, zcL, zcR, true_and, and_true, true_implies, false_implies, implies_true, not_true_eq_false, not_false_eq_true, and_self, Int.toNat_natCast, Nat.reduceAdd, Nat.reduceLeDiff, Nat.reduceLT, forall_eq', Option.some.injEq, zarR, zarI, zarL, zle, zq0, zq1, zq2, zq3, zq4, zq5, zq6, zq8, zq9, zq10, zq20, zq7, zq12, zq24, zq40, zq41, zq48, zq100, zq120, zq123, zq480, zq492, zq700, zq729, zq2187, zq2916, zq8748, ne_eq, Int.reduceEq, Int.reduceLT, Int.reduceLE, Int.reduceToNat, Int.reduceMul, Int.reduceAdd, Int.reduceNeg, zlc_eq]
  exact K G2 h2 _ _ _ _ I2 (by omega) (by omega)
theorem law_21 (hI : INV G h) (hi : i + 6 ≤ L) (hL : L ≤ 3072) (b1 : k1 + 12 ≤ 601024) (b2 : k2 + 61 ≤ 7293034) (K : ∀ (G' : zG) (h' : zM) (k1' k2' : Nat) (l5 l6 : Option zV), INV G' h' → k1' ≤ k1 + 12 → k2' ≤ k2 + 61 → zLw (d + 16) (1, L, f) Q 1351 [some (zT 1000), some (zR (some 0)), some (zR (some 91)), some (zR (some 120)), some (zI i), l5, l6] [] G' h' (k1', k2')) : zLw (d + 16) (1, L, f) Q 922 [some (zT 1000), some (zR (some 0)), some (zR (some 91)), some (zR (some 120)), some (zI i), l5, l6] [] G h (k1, k2) := by
  have hg := hI.1
  have e1 : ((i + 1 : Nat) : Int) < (L : Int) := by omega
  have e2 : ((i + 2 : Nat) : Int) < (L : Int) := by omega
  have e3 : ((i + 3 : Nat) : Int) < (L : Int) := by omega
  have c1 : k1 ≤ 601024 := by omega
  have c2 : k2 ≤ 7293034 := by omega
  have c3 : k1 + 11 ≤ 601024 := by omega
  have c4 : k2 + 55 ≤ 7293034 := by omega
  have c5 : k1 + 1 ≤ 601024 := by omega
  have c6 : k2 + 6 ≤ 7293034 := by omega
  have w1 : True → wr ((i : Int) + 1) = ((i + 1 : Nat) : Int) := fun _ => wrN (by omega) (by omega)
  have w2 : True → wr ((i : Int) + 2) = ((i + 2 : Nat) : Int) := fun _ => wrN (by omega) (by omega)
  have w3 : True → wr ((i : Int) + 3) = ((i + 3 : Nat) : Int) := fun _ => wrN (by omega) (by omega)
  simp only [l_922, l_923, l_924, l_926, l_927, l_928, l_929, l_930, l_932, l_933, l_934, l_935, l_936, l_938, l_939, l_940, l_941, zs0, zsI, zsL, zsR, ztl1, ztl0, zc0, zcI, zcL, zcR, true_and, and_true, true_implies, false_implies, implies_true, not_true_eq_false, not_false_eq_true, and_self, Int.toNat_natCast, Nat.reduceAdd, Nat.reduceLeDiff, Nat.reduceLT, forall_eq', Option.some.injEq, zarR, zarI, zarL, zle, zq0, zq1, zq2, zq3, zq4, zq5, zq6, zq8, zq9, zq10, zq20, zq7, zq12, zq24, zq40, zq41, zq48, zq100, zq120, zq123, zq480, zq492, zq700, zq729, zq2187, zq2916, zq8748, ne_eq, Int.reduceEq, Int.reduceLT, Int.reduceLE, Int.reduceToNat, Int.reduceMul, Int.reduceAdd, Int.reduceNeg, w1 trivial, e1, w2 trivial, e2, w3 trivial, e3, gk0 hg, Nat.add_zero, c1, c2, c3, c4, c5, c6]
  refine zRunD_mono ztb zmt' (d + 16) _ _ _ _ _ _ ?_ (PR_w (p_promise (d := d) hI))
  rintro v G1 h1 ⟨z, rfl, gk, r⟩
  have k91 : G1.2.1 91 = 9 := by rw [gk]; exact gk91 hg
  simp only [l_944, l_945, l_946, l_948, l_949, l_950, l_951, l_952, l_954, l_955, l_956, l_957, l_958, l_960, l_961, l_962, l_963, zs0, zsI, zsL, zsR, ztl1, ztl0, zc0, zcI, zcL, zcR, true_and, and_true, true_implies, false_implies, implies_true, not_true_eq_false, not_false_eq_true, and_self, Int.toNat_natCast, Nat.reduceAdd, Nat.reduceLeDiff, Nat.reduceLT, forall_eq', Option.some.injEq, zarR, zarI, zarL, zle, zq0, zq1, zq2, zq3, zq4, zq5, zq6, zq8, zq9, zq10, zq20, zq7, zq12, zq24, zq40, zq41, zq48, zq100, zq120, zq123, zq480, zq492, zq700, zq729, zq2187, zq2916, zq8748, ne_eq, Int.reduceEq, Int.reduceLT, Int.reduceLE, Int.reduceToNat, Int.reduceMul, Int.reduceAdd, Int.reduceNeg, w1 trivial, e1, w2 trivial, e2, w3 trivial, e3, k91, Nat.add_zero, c1, c2, c3, c4, c5, c6]
  refine zRunD_mono ztb zmt' (d + 16) _ _ _ _ _ _ ?_ r
  rintro v' G2 h2 ⟨rfl, I2⟩
  simp only [l_966, l_967, l_970, l_971, zs0, zsI, zsL, zsR, ztl1, ztl0, zc0, zcI, zcL, zcR, true_and, and_true, true_implies, false_implies, implies_true, not_true_eq_false, not_false_eq_true, and_self, Int.toNat_natCast, Nat.reduceAdd, Nat.reduceLeDiff, Nat.reduceLT, forall_eq', Option.some.injEq, zarR, zarI, zarL, zle, zq0, zq1, zq2, zq3, zq4, zq5, zq6, zq8, zq9, zq10, zq20, zq7, zq12, zq24, zq40, zq41, zq48, zq100, zq120, zq123, zq480, zq492, zq700, zq729, zq2187, zq2916, zq8748, ne_eq, Int.reduceEq, Int.reduceLT, Int.reduceLE, Int.reduceToNat, Int.reduceMul, Int.reduceAdd, Int.reduceNeg, zlc_eq]
  exact K G2 h2 _ _ _ _ I2 (by omega) (by omega)
theorem law_22 (hI : INV G h) (hi : i + 6 ≤ L) (hL : L ≤ 3072) (b1 : k1 + 12 ≤ 601024) (b2 : k2 + 61 ≤ 7293034) (K : ∀ (G' : zG) (h' : zM) (k1' k2' : Nat) (l5 l6 : Option zV), INV G' h' → k1' ≤ k1 + 12 → k2' ≤ k2 + 61 → zLw (d + 16) (1, L, f) Q 1351 [some (zT 1000), some (zR (some 0)), some (zR (some 91)), some (zR (some 120)), some (zI i), l5, l6] [] G' h' (k1', k2')) : zLw (d + 16) (1, L, f) Q 972 [some (zT 1000), some (zR (some 0)), some (zR (some 91)), some (zR (some 120)), some (zI i), l5, l6] [] G h (k1, k2) := by
  have hg := hI.1
  have e1 : ((i + 1 : Nat) : Int) < (L : Int) := by omega
  have e2 : ((i + 2 : Nat) : Int) < (L : Int) := by omega
  have e3 : ((i + 3 : Nat) : Int) < (L : Int) := by omega
  have c1 : k1 ≤ 601024 := by omega
  have c2 : k2 ≤ 7293034 := by omega
  have c3 : k1 + 11 ≤ 601024 := by omega
  have c4 : k2 + 55 ≤ 7293034 := by omega
  have c5 : k1 + 1 ≤ 601024 := by omega
  have c6 : k2 + 6 ≤ 7293034 := by omega
  have w1 : True → wr ((i : Int) + 1) = ((i + 1 : Nat) : Int) := fun _ => wrN (by omega) (by omega)
  have w2 : True → wr ((i : Int) + 2) = ((i + 2 : Nat) : Int) := fun _ => wrN (by omega) (by omega)
  have w3 : True → wr ((i : Int) + 3) = ((i + 3 : Nat) : Int) := fun _ => wrN (by omega) (by omega)
  simp only [l_972, l_973, l_974, l_976, l_977, l_978, l_979, l_980, l_982, l_983, l_984, l_985, l_986, l_988, l_989, l_990, l_991, zs0, zsI, zsL, zsR, ztl1, ztl0, zc0, zcI, zcL, zcR, true_and, and_true, true_implies, false_implies, implies_true, not_true_eq_false, not_false_eq_true, and_self, Int.toNat_natCast, Nat.reduceAdd, Nat.reduceLeDiff, Nat.reduceLT, forall_eq', Option.some.injEq, zarR, zarI, zarL, zle, zq0, zq1, zq2, zq3, zq4, zq5, zq6, zq8, zq9, zq10, zq20, zq7, zq12, zq24, zq40, zq41, zq48, zq100, zq120, zq123, zq480, zq492, zq700, zq729, zq2187, zq2916, zq8748, ne_eq, Int.reduceEq, Int.reduceLT, Int.reduceLE, Int.reduceToNat, Int.reduceMul, Int.reduceAdd, Int.reduceNeg, w1 trivial, e1, w2 trivial, e2, w3 trivial, e3, gk0 hg, Nat.add_zero, c1, c2, c3, c4, c5, c6]
  refine zRunD_mono ztb zmt' (d + 16) _ _ _ _ _ _ ?_ (PR_w (p_shape (d := d) hI))
  rintro v G1 h1 ⟨z, rfl, gk, r⟩
  have k91 : G1.2.1 91 = 9 := by rw [gk]; exact gk91 hg
  simp only [l_994, l_995, l_996, l_998, l_999, l_1000, l_1001, l_1002, l_1004, l_1005, l_1006, l_1007, l_1008, l_1010, l_1011, l_1012, l_1013, zs0, zsI, zsL, zsR, ztl1, ztl0, zc0, zcI, zcL, zcR, true_and, and_true, true_implies, false_implies, implies_true, not_true_eq_false, not_false_eq_true, and_self, Int.toNat_natCast, Nat.reduceAdd, Nat.reduceLeDiff, Nat.reduceLT, forall_eq', Option.some.injEq, zarR, zarI, zarL, zle, zq0, zq1, zq2, zq3, zq4, zq5, zq6, zq8, zq9, zq10, zq20, zq7, zq12, zq24, zq40, zq41, zq48, zq100, zq120, zq123, zq480, zq492, zq700, zq729, zq2187, zq2916, zq8748, ne_eq, Int.reduceEq, Int.reduceLT, Int.reduceLE, Int.reduceToNat, Int.reduceMul, Int.reduceAdd, Int.reduceNeg, w1 trivial, e1, w2 trivial, e2, w3 trivial, e3, k91, Nat.add_zero, c1, c2, c3, c4, c5, c6]
  refine zRunD_mono ztb zmt' (d + 16) _ _ _ _ _ _ ?_ r
  rintro v' G2 h2 ⟨rfl, I2⟩
  simp only [l_1016, l_1017, l_1020, l_1021, zs0, zsI, zsL, zsR, ztl1, ztl0, zc0, zcI, zcL, zcR, true_and, and_true, true_implies, false_implies, implies_true, not_true_eq_false, not_false_eq_true, and_self, Int.toNat_natCast, Nat.reduceAdd, Nat.reduceLeDiff, Nat.reduceLT, forall_eq', Option.some.injEq, zarR, zarI, zarL, zle, zq0, zq1, zq2, zq3, zq4, zq5, zq6, zq8, zq9, zq10, zq20, zq7, zq12, zq24, zq40, zq41, zq48, zq100, zq120, zq123, zq480, zq492, zq700, zq729, zq2187, zq2916, zq8748, ne_eq, Int.reduceEq, Int.reduceLT, Int.reduceLE, Int.reduceToNat, Int.reduceMul, Int.reduceAdd, Int.reduceNeg, zlc_eq]
  exact K G2 h2 _ _ _ _ I2 (by omega) (by omega)
theorem law_23 (hI : INV G h) (hi : i + 6 ≤ L) (hL : L ≤ 3072) (b1 : k1 + 12 ≤ 601024) (b2 : k2 + 61 ≤ 7293034) (K : ∀ (G' : zG) (h' : zM) (k1' k2' : Nat) (l5 l6 : Option zV), INV G' h' → k1' ≤ k1 + 12 → k2' ≤ k2 + 61 → zLw (d + 16) (1, L, f) Q 1351 [some (zT 1000), some (zR (some 0)), some (zR (some 91)), some (zR (some 120)), some (zI i), l5, l6] [] G' h' (k1', k2')) : zLw (d + 16) (1, L, f) Q 1022 [some (zT 1000), some (zR (some 0)), some (zR (some 91)), some (zR (some 120)), some (zI i), l5, l6] [] G h (k1, k2) := by
  have hg := hI.1
  have e1 : ((i + 1 : Nat) : Int) < (L : Int) := by omega
  have e2 : ((i + 2 : Nat) : Int) < (L : Int) := by omega
  have c1 : k1 ≤ 601024 := by omega
  have c2 : k2 ≤ 7293034 := by omega
  have c3 : k1 + 11 ≤ 601024 := by omega
  have c4 : k2 + 55 ≤ 7293034 := by omega
  have c5 : k1 + 1 ≤ 601024 := by omega
  have c6 : k2 + 6 ≤ 7293034 := by omega
  have w1 : True → wr ((i : Int) + 1) = ((i + 1 : Nat) : Int) := fun _ => wrN (by omega) (by omega)
  have w2 : True → wr ((i : Int) + 2) = ((i + 2 : Nat) : Int) := fun _ => wrN (by omega) (by omega)
  simp only [l_1022, l_1023, l_1024, l_1026, l_1027, l_1028, l_1029, l_1030, l_1032, l_1033, l_1034, l_1035, zs0, zsI, zsL, zsR, ztl1, ztl0, zc0, zcI, zcL, zcR, true_and, and_true, true_implies, false_implies, implies_true, not_true_eq_false, not_false_eq_true, and_self, Int.toNat_natCast, Nat.reduceAdd, Nat.reduceLeDiff, Nat.reduceLT, forall_eq', Option.some.injEq, zarR, zarI, zarL, zle, zq0, zq1, zq2, zq3, zq4, zq5, zq6, zq8, zq9, zq10, zq20, zq7, zq12, zq24, zq40, zq41, zq48, zq100, zq120, zq123, zq480, zq492, zq700, zq729, zq2187, zq2916, zq8748, ne_eq, Int.reduceEq, Int.reduceLT, Int.reduceLE, Int.reduceToNat, Int.reduceMul, Int.reduceAdd, Int.reduceNeg, w1 trivial, e1, w2 trivial, e2, gk0 hg, Nat.add_zero, c1, c2, c3, c4, c5, c6]
  refine zRunD_mono ztb zmt' (d + 16) _ _ _ _ _ _ ?_ (PR_w (p_fit (d := d) hI))
  rintro v G1 h1 ⟨z, rfl, gk, r⟩
  have k91 : G1.2.1 91 = 9 := by rw [gk]; exact gk91 hg
  simp only [l_1038, l_1039, l_1040, l_1042, l_1043, l_1044, l_1045, l_1046, l_1048, l_1049, l_1050, l_1051, zs0, zsI, zsL, zsR, ztl1, ztl0, zc0, zcI, zcL, zcR, true_and, and_true, true_implies, false_implies, implies_true, not_true_eq_false, not_false_eq_true, and_self, Int.toNat_natCast, Nat.reduceAdd, Nat.reduceLeDiff, Nat.reduceLT, forall_eq', Option.some.injEq, zarR, zarI, zarL, zle, zq0, zq1, zq2, zq3, zq4, zq5, zq6, zq8, zq9, zq10, zq20, zq7, zq12, zq24, zq40, zq41, zq48, zq100, zq120, zq123, zq480, zq492, zq700, zq729, zq2187, zq2916, zq8748, ne_eq, Int.reduceEq, Int.reduceLT, Int.reduceLE, Int.reduceToNat, Int.reduceMul, Int.reduceAdd, Int.reduceNeg, w1 trivial, e1, w2 trivial, e2, k91, Nat.add_zero, c1, c2, c3, c4, c5, c6]
  refine zRunD_mono ztb zmt' (d + 16) _ _ _ _ _ _ ?_ r
  rintro v' G2 h2 ⟨rfl, I2⟩
  simp only [l_1054, l_1057, l_1058, zs0, zsI, zsL, zsR, ztl1, ztl0, zc0, zcI, zcL, zcR, true_and, and_true, true_implies, false_implies, implies_true, not_true_eq_false, not_false_eq_true, and_self, Int.toNat_natCast, Nat.reduceAdd, Nat.reduceLeDiff, Nat.reduceLT, forall_eq', Option.some.injEq, zarR, zarI, zarL, zle, zq0, zq1, zq2, zq3, zq4, zq5, zq6, zq8, zq9, zq10, zq20, zq7, zq12, zq24, zq40, zq41, zq48, zq100, zq120, zq123, zq480, zq492, zq700, zq729, zq2187, zq2916, zq8748, ne_eq, Int.reduceEq, Int.reduceLT, Int.reduceLE, Int.reduceToNat, Int.reduceMul, Int.reduceAdd, Int.reduceNeg, zlc_eq]
  exact K G2 h2 _ _ _ _ I2 (by omega) (by omega)
theorem law_24 (hI : INV G h) (hi : i + 6 ≤ L) (hL : L ≤ 3072) (b1 : k1 + 12 ≤ 601024) (b2 : k2 + 61 ≤ 7293034) (K : ∀ (G' : zG) (h' : zM) (k1' k2' : Nat) (l5 l6 : Option zV), INV G' h' → k1' ≤ k1 + 12 → k2' ≤ k2 + 61 → zLw (d + 16) (1, L, f) Q 1351 [some (zT 1000), some (zR (some 0)), some (zR (some 91)), some (zR (some 120)), some (zI i), l5, l6] [] G' h' (k1', k2')) : zLw (d + 16) (1, L, f) Q 1059 [some (zT 1000), some (zR (some 0)), some (zR (some 91)), some (zR (some 120)), some (zI i), l5, l6] [] G h (k1, k2) := by
  have hg := hI.1
  have e1 : ((i + 1 : Nat) : Int) < (L : Int) := by omega
  have e2 : ((i + 2 : Nat) : Int) < (L : Int) := by omega
  have c1 : k1 ≤ 601024 := by omega
  have c2 : k2 ≤ 7293034 := by omega
  have c3 : k1 + 11 ≤ 601024 := by omega
  have c4 : k2 + 55 ≤ 7293034 := by omega
  have c5 : k1 + 1 ≤ 601024 := by omega
  have c6 : k2 + 6 ≤ 7293034 := by omega
  have w1 : True → wr ((i : Int) + 1) = ((i + 1 : Nat) : Int) := fun _ => wrN (by omega) (by omega)
  have w2 : True → wr ((i : Int) + 2) = ((i + 2 : Nat) : Int) := fun _ => wrN (by omega) (by omega)
  simp only [l_1059, l_1060, l_1061, l_1063, l_1064, l_1065, l_1066, l_1067, l_1069, l_1070, l_1071, l_1072, zs0, zsI, zsL, zsR, ztl1, ztl0, zc0, zcI, zcL, zcR, true_and, and_true, true_implies, false_implies, implies_true, not_true_eq_false, not_false_eq_true, and_self, Int.toNat_natCast, Nat.reduceAdd, Nat.reduceLeDiff, Nat.reduceLT, forall_eq', Option.some.injEq, zarR, zarI, zarL, zle, zq0, zq1, zq2, zq3, zq4, zq5, zq6, zq8, zq9, zq10, zq20, zq7, zq12, zq24, zq40, zq41, zq48, zq100, zq120, zq123, zq480, zq492, zq700, zq729, zq2187, zq2916, zq8748, ne_eq, Int.reduceEq, Int.reduceLT, Int.reduceLE, Int.reduceToNat, Int.reduceMul, Int.reduceAdd, Int.reduceNeg, w1 trivial, e1, w2 trivial, e2, gk0 hg, Nat.add_zero, c1, c2, c3, c4, c5, c6]
  refine zRunD_mono ztb zmt' (d + 16) _ _ _ _ _ _ ?_ (PR_w (p_late (d := d) hI))
  rintro v G1 h1 ⟨z, rfl, gk, r⟩
  have k91 : G1.2.1 91 = 9 := by rw [gk]; exact gk91 hg
  simp only [l_1075, l_1076, l_1077, l_1079, l_1080, l_1081, l_1082, l_1083, l_1085, l_1086, l_1087, l_1088, zs0, zsI, zsL, zsR, ztl1, ztl0, zc0, zcI, zcL, zcR, true_and, and_true, true_implies, false_implies, implies_true, not_true_eq_false, not_false_eq_true, and_self, Int.toNat_natCast, Nat.reduceAdd, Nat.reduceLeDiff, Nat.reduceLT, forall_eq', Option.some.injEq, zarR, zarI, zarL, zle, zq0, zq1, zq2, zq3, zq4, zq5, zq6, zq8, zq9, zq10, zq20, zq7, zq12, zq24, zq40, zq41, zq48, zq100, zq120, zq123, zq480, zq492, zq700, zq729, zq2187, zq2916, zq8748, ne_eq, Int.reduceEq, Int.reduceLT, Int.reduceLE, Int.reduceToNat, Int.reduceMul, Int.reduceAdd, Int.reduceNeg, w1 trivial, e1, w2 trivial, e2, k91, Nat.add_zero, c1, c2, c3, c4, c5, c6]
  refine zRunD_mono ztb zmt' (d + 16) _ _ _ _ _ _ ?_ r
  rintro v' G2 h2 ⟨rfl, I2⟩
  simp only [l_1091, l_1094, l_1095, zs0, zsI, zsL, zsR, ztl1, ztl0, zc0, zcI, zcL, zcR, true_and, and_true, true_implies, false_implies, implies_true, not_true_eq_false, not_false_eq_true, and_self, Int.toNat_natCast, Nat.reduceAdd, Nat.reduceLeDiff, Nat.reduceLT, forall_eq', Option.some.injEq, zarR, zarI, zarL, zle, zq0, zq1, zq2, zq3, zq4, zq5, zq6, zq8, zq9, zq10, zq20, zq7, zq12, zq24, zq40, zq41, zq48, zq100, zq120, zq123, zq480, zq492, zq700, zq729, zq2187, zq2916, zq8748, ne_eq, Int.reduceEq, Int.reduceLT, Int.reduceLE, Int.reduceToNat, Int.reduceMul, Int.reduceAdd, Int.reduceNeg, zlc_eq]
  exact K G2 h2 _ _ _ _ I2 (by omega) (by omega)
theorem law_25 (hI : INV G h) (hi : i + 6 ≤ L) (hL : L ≤ 3072) (b1 : k1 + 12 ≤ 601024) (b2 : k2 + 61 ≤ 7293034) (K : ∀ (G' : zG) (h' : zM) (k1' k2' : Nat) (l5 l6 : Option zV), INV G' h' → k1' ≤ k1 + 12 → k2' ≤ k2 + 61 → zLw (d + 16) (1, L, f) Q 1351 [some (zT 1000), some (zR (some 0)), some (zR (some 91)), some (zR (some 120)), some (zI i), l5, l6] [] G' h' (k1', k2')) : zLw (d + 16) (1, L, f) Q 1096 [some (zT 1000), some (zR (some 0)), some (zR (some 91)), some (zR (some 120)), some (zI i), l5, l6] [] G h (k1, k2) := by
  have hg := hI.1
  have e1 : ((i + 1 : Nat) : Int) < (L : Int) := by omega
  have e2 : ((i + 2 : Nat) : Int) < (L : Int) := by omega
  have c1 : k1 ≤ 601024 := by omega
  have c2 : k2 ≤ 7293034 := by omega
  have c3 : k1 + 11 ≤ 601024 := by omega
  have c4 : k2 + 55 ≤ 7293034 := by omega
  have c5 : k1 + 1 ≤ 601024 := by omega
  have c6 : k2 + 6 ≤ 7293034 := by omega
  have w1 : True → wr ((i : Int) + 1) = ((i + 1 : Nat) : Int) := fun _ => wrN (by omega) (by omega)
  have w2 : True → wr ((i : Int) + 2) = ((i + 2 : Nat) : Int) := fun _ => wrN (by omega) (by omega)
  simp only [l_1096, l_1097, l_1098, l_1100, l_1101, l_1102, l_1103, l_1104, l_1106, l_1107, l_1108, l_1109, zs0, zsI, zsL, zsR, ztl1, ztl0, zc0, zcI, zcL, zcR, true_and, and_true, true_implies, false_implies, implies_true, not_true_eq_false, not_false_eq_true, and_self, Int.toNat_natCast, Nat.reduceAdd, Nat.reduceLeDiff, Nat.reduceLT, forall_eq', Option.some.injEq, zarR, zarI, zarL, zle, zq0, zq1, zq2, zq3, zq4, zq5, zq6, zq8, zq9, zq10, zq20, zq7, zq12, zq24, zq40, zq41, zq48, zq100, zq120, zq123, zq480, zq492, zq700, zq729, zq2187, zq2916, zq8748, ne_eq, Int.reduceEq, Int.reduceLT, Int.reduceLE, Int.reduceToNat, Int.reduceMul, Int.reduceAdd, Int.reduceNeg, w1 trivial, e1, w2 trivial, e2, gk0 hg, Nat.add_zero, c1, c2, c3, c4, c5, c6]
  refine zRunD_mono ztb zmt' (d + 16) _ _ _ _ _ _ ?_ (PR_w (p_lures (d := d) hI))
  rintro v G1 h1 ⟨z, rfl, gk, r⟩
  have k91 : G1.2.1 91 = 9 := by rw [gk]; exact gk91 hg
  simp only [l_1112, l_1113, l_1114, l_1116, l_1117, l_1118, l_1119, l_1120, l_1122, l_1123, l_1124, l_1125, zs0, zsI, zsL, zsR, ztl1, ztl0, zc0, zcI, zcL, zcR, true_and, and_true, true_implies, false_implies, implies_true, not_true_eq_false, not_false_eq_true, and_self, Int.toNat_natCast, Nat.reduceAdd, Nat.reduceLeDiff, Nat.reduceLT, forall_eq', Option.some.injEq, zarR, zarI, zarL, zle, zq0, zq1, zq2, zq3, zq4, zq5, zq6, zq8, zq9, zq10, zq20, zq7, zq12, zq24, zq40, zq41, zq48, zq100, zq120, zq123, zq480, zq492, zq700, zq729, zq2187, zq2916, zq8748, ne_eq, Int.reduceEq, Int.reduceLT, Int.reduceLE, Int.reduceToNat, Int.reduceMul, Int.reduceAdd, Int.reduceNeg, w1 trivial, e1, w2 trivial, e2, k91, Nat.add_zero, c1, c2, c3, c4, c5, c6]
  refine zRunD_mono ztb zmt' (d + 16) _ _ _ _ _ _ ?_ r
  rintro v' G2 h2 ⟨rfl, I2⟩
  simp only [l_1128, l_1131, l_1132, zs0, zsI, zsL, zsR, ztl1, ztl0, zc0, zcI, zcL, zcR, true_and, and_true, true_implies, false_implies, implies_true, not_true_eq_false, not_false_eq_true, and_self, Int.toNat_natCast, Nat.reduceAdd, Nat.reduceLeDiff, Nat.reduceLT, forall_eq', Option.some.injEq, zarR, zarI, zarL, zle, zq0, zq1, zq2, zq3, zq4, zq5, zq6, zq8, zq9, zq10, zq20, zq7, zq12, zq24, zq40, zq41, zq48, zq100, zq120, zq123, zq480, zq492, zq700, zq729, zq2187, zq2916, zq8748, ne_eq, Int.reduceEq, Int.reduceLT, Int.reduceLE, Int.reduceToNat, Int.reduceMul, Int.reduceAdd, Int.reduceNeg, zlc_eq]
  exact K G2 h2 _ _ _ _ I2 (by omega) (by omega)
theorem law_26 (hI : INV G h) (hi : i + 6 ≤ L) (hL : L ≤ 3072) (b1 : k1 + 12 ≤ 601024) (b2 : k2 + 61 ≤ 7293034) (K : ∀ (G' : zG) (h' : zM) (k1' k2' : Nat) (l5 l6 : Option zV), INV G' h' → k1' ≤ k1 + 12 → k2' ≤ k2 + 61 → zLw (d + 16) (1, L, f) Q 1351 [some (zT 1000), some (zR (some 0)), some (zR (some 91)), some (zR (some 120)), some (zI i), l5, l6] [] G' h' (k1', k2')) : zLw (d + 16) (1, L, f) Q 1133 [some (zT 1000), some (zR (some 0)), some (zR (some 91)), some (zR (some 120)), some (zI i), l5, l6] [] G h (k1, k2) := by
  have hg := hI.1
  have c1 : k1 ≤ 601024 := by omega
  have c2 : k2 ≤ 7293034 := by omega
  have c3 : k1 + 11 ≤ 601024 := by omega
  have c4 : k2 + 55 ≤ 7293034 := by omega
  have c5 : k1 + 1 ≤ 601024 := by omega
  have c6 : k2 + 6 ≤ 7293034 := by omega
  simp only [l_1133, l_1134, zs0, zsI, zsL, zsR, ztl1, ztl0, zc0, zcI, zcL, zcR, true_and, and_true, true_implies, false_implies, implies_true, not_true_eq_false, not_false_eq_true, and_self, Int.toNat_natCast, Nat.reduceAdd, Nat.reduceLeDiff, Nat.reduceLT, forall_eq', Option.some.injEq, zarR, zarI, zarL, zle, zq0, zq1, zq2, zq3, zq4, zq5, zq6, zq8, zq9, zq10, zq20, zq7, zq12, zq24, zq40, zq41, zq48, zq100, zq120, zq123, zq480, zq492, zq700, zq729, zq2187, zq2916, zq8748, ne_eq, Int.reduceEq, Int.reduceLT, Int.reduceLE, Int.reduceToNat, Int.reduceMul, Int.reduceAdd, Int.reduceNeg, gk0 hg, Nat.add_zero, c1, c2, c3, c4, c5, c6]
  refine zRunD_mono ztb zmt' (d + 16) _ _ _ _ _ _ ?_ (PR_w (p_edge (d := d) hI))
  rintro v G1 h1 ⟨z, rfl, gk, r⟩
  have k91 : G1.2.1 91 = 9 := by rw [gk]; exact gk91 hg
  simp only [l_1137, l_1138, zs0, zsI, zsL, zsR, ztl1, ztl0, zc0, zcI, zcL, zcR, true_and, and_true, true_implies, false_implies, implies_true, not_true_eq_false, not_false_eq_true, and_self, Int.toNat_natCast, Nat.reduceAdd, Nat.reduceLeDiff, Nat.reduceLT, forall_eq', Option.some.injEq, zarR, zarI, zarL, zle, zq0, zq1, zq2, zq3, zq4, zq5, zq6, zq8, zq9, zq10, zq20, zq7, zq12, zq24, zq40, zq41, zq48, zq100, zq120, zq123, zq480, zq492, zq700, zq729, zq2187, zq2916, zq8748, ne_eq, Int.reduceEq, Int.reduceLT, Int.reduceLE, Int.reduceToNat, Int.reduceMul, Int.reduceAdd, Int.reduceNeg, k91, Nat.add_zero, c1, c2, c3, c4, c5, c6]
  refine zRunD_mono ztb zmt' (d + 16) _ _ _ _ _ _ ?_ r
  rintro v' G2 h2 ⟨rfl, I2⟩
  simp only [l_1141, l_1144, l_1145, zs0, zsI, zsL, zsR, ztl1, ztl0, zc0, zcI, zcL, zcR, true_and, and_true, true_implies, false_implies, implies_true, not_true_eq_false, not_false_eq_true, and_self, Int.toNat_natCast, Nat.reduceAdd, Nat.reduceLeDiff, Nat.reduceLT, forall_eq', Option.some.injEq, zarR, zarI, zarL, zle, zq0, zq1, zq2, zq3, zq4, zq5, zq6, zq8, zq9, zq10, zq20, zq7, zq12, zq24, zq40, zq41, zq48, zq100, zq120, zq123, zq480, zq492, zq700, zq729, zq2187, zq2916, zq8748, ne_eq, Int.reduceEq, Int.reduceLT, Int.reduceLE, Int.reduceToNat, Int.reduceMul, Int.reduceAdd, Int.reduceNeg, zlc_eq]
  exact K G2 h2 _ _ _ _ I2 (by omega) (by omega)
theorem law_27 (hI : INV G h) (hi : i + 6 ≤ L) (hL : L ≤ 3072) (b1 : k1 + 12 ≤ 601024) (b2 : k2 + 61 ≤ 7293034) (K : ∀ (G' : zG) (h' : zM) (k1' k2' : Nat) (l5 l6 : Option zV), INV G' h' → k1' ≤ k1 + 12 → k2' ≤ k2 + 61 → zLw (d + 16) (1, L, f) Q 1351 [some (zT 1000), some (zR (some 0)), some (zR (some 91)), some (zR (some 120)), some (zI i), l5, l6] [] G' h' (k1', k2')) : zLw (d + 16) (1, L, f) Q 1146 [some (zT 1000), some (zR (some 0)), some (zR (some 91)), some (zR (some 120)), some (zI i), l5, l6] [] G h (k1, k2) := by
  have hg := hI.1
  have e1 : ((i + 1 : Nat) : Int) < (L : Int) := by omega
  have e2 : ((i + 2 : Nat) : Int) < (L : Int) := by omega
  have c1 : k1 ≤ 601024 := by omega
  have c2 : k2 ≤ 7293034 := by omega
  have c3 : k1 + 11 ≤ 601024 := by omega
  have c4 : k2 + 55 ≤ 7293034 := by omega
  have c5 : k1 + 1 ≤ 601024 := by omega
  have c6 : k2 + 6 ≤ 7293034 := by omega
  have w1 : True → wr ((i : Int) + 1) = ((i + 1 : Nat) : Int) := fun _ => wrN (by omega) (by omega)
  have w2 : True → wr ((i : Int) + 2) = ((i + 2 : Nat) : Int) := fun _ => wrN (by omega) (by omega)
  simp only [l_1146, l_1147, l_1148, l_1150, l_1151, l_1152, l_1153, l_1154, l_1156, l_1157, l_1158, l_1159, zs0, zsI, zsL, zsR, ztl1, ztl0, zc0, zcI, zcL, zcR, true_and, and_true, true_implies, false_implies, implies_true, not_true_eq_false, not_false_eq_true, and_self, Int.toNat_natCast, Nat.reduceAdd, Nat.reduceLeDiff, Nat.reduceLT, forall_eq', Option.some.injEq, zarR, zarI, zarL, zle, zq0, zq1, zq2, zq3, zq4, zq5, zq6, zq8, zq9, zq10, zq20, zq7, zq12, zq24, zq40, zq41, zq48, zq100, zq120, zq123, zq480, zq492, zq700, zq729, zq2187, zq2916, zq8748, ne_eq, Int.reduceEq, Int.reduceLT, Int.reduceLE, Int.reduceToNat, Int.reduceMul, Int.reduceAdd, Int.reduceNeg, w1 trivial, e1, w2 trivial, e2, gk0 hg, Nat.add_zero, c1, c2, c3, c4, c5, c6]
  refine zRunD_mono ztb zmt' (d + 16) _ _ _ _ _ _ ?_ (PR_w (p_change (d := d) hI))
  rintro v G1 h1 ⟨z, rfl, gk, r⟩
  have k91 : G1.2.1 91 = 9 := by rw [gk]; exact gk91 hg
  simp only [l_1162, l_1163, l_1164, l_1166, l_1167, l_1168, l_1169, l_1170, l_1172, l_1173, l_1174, l_1175, zs0, zsI, zsL, zsR, ztl1, ztl0, zc0, zcI, zcL, zcR, true_and, and_true, true_implies, false_implies, implies_true, not_true_eq_false, not_false_eq_true, and_self, Int.toNat_natCast, Nat.reduceAdd, Nat.reduceLeDiff, Nat.reduceLT, forall_eq', Option.some.injEq, zarR, zarI, zarL, zle, zq0, zq1, zq2, zq3, zq4, zq5, zq6, zq8, zq9, zq10, zq20, zq7, zq12, zq24, zq40, zq41, zq48, zq100, zq120, zq123, zq480, zq492, zq700, zq729, zq2187, zq2916, zq8748, ne_eq, Int.reduceEq, Int.reduceLT, Int.reduceLE, Int.reduceToNat, Int.reduceMul, Int.reduceAdd, Int.reduceNeg, w1 trivial, e1, w2 trivial, e2, k91, Nat.add_zero, c1, c2, c3, c4, c5, c6]
  refine zRunD_mono ztb zmt' (d + 16) _ _ _ _ _ _ ?_ r
  rintro v' G2 h2 ⟨rfl, I2⟩
  simp only [l_1178, l_1181, l_1182, zs0, zsI, zsL, zsR, ztl1, ztl0, zc0, zcI, zcL, zcR, true_and, and_true, true_implies, false_implies, implies_true, not_true_eq_false, not_false_eq_true, and_self, Int.toNat_natCast, Nat.reduceAdd, Nat.reduceLeDiff, Nat.reduceLT, forall_eq', Option.some.injEq, zarR, zarI, zarL, zle, zq0, zq1, zq2, zq3, zq4, zq5, zq6, zq8, zq9, zq10, zq20, zq7, zq12, zq24, zq40, zq41, zq48, zq100, zq120, zq123, zq480, zq492, zq700, zq729, zq2187, zq2916, zq8748, ne_eq, Int.reduceEq, Int.reduceLT, Int.reduceLE, Int.reduceToNat, Int.reduceMul, Int.reduceAdd, Int.reduceNeg, zlc_eq]
  exact K G2 h2 _ _ _ _ I2 (by omega) (by omega)
theorem law_28 (hI : INV G h) (hi : i + 6 ≤ L) (hL : L ≤ 3072) (b1 : k1 + 12 ≤ 601024) (b2 : k2 + 61 ≤ 7293034) (K : ∀ (G' : zG) (h' : zM) (k1' k2' : Nat) (l5 l6 : Option zV), INV G' h' → k1' ≤ k1 + 12 → k2' ≤ k2 + 61 → zLw (d + 16) (1, L, f) Q 1351 [some (zT 1000), some (zR (some 0)), some (zR (some 91)), some (zR (some 120)), some (zI i), l5, l6] [] G' h' (k1', k2')) : zLw (d + 16) (1, L, f) Q 1183 [some (zT 1000), some (zR (some 0)), some (zR (some 91)), some (zR (some 120)), some (zI i), l5, l6] [] G h (k1, k2) := by
  have hg := hI.1
  have e1 : ((i + 1 : Nat) : Int) < (L : Int) := by omega
  have c1 : k1 ≤ 601024 := by omega
  have c2 : k2 ≤ 7293034 := by omega
  have c3 : k1 + 11 ≤ 601024 := by omega
  have c4 : k2 + 55 ≤ 7293034 := by omega
  have c5 : k1 + 1 ≤ 601024 := by omega
  have c6 : k2 + 6 ≤ 7293034 := by omega
  have w1 : True → wr ((i : Int) + 1) = ((i + 1 : Nat) : Int) := fun _ => wrN (by omega) (by omega)
  simp only [l_1183, l_1184, l_1185, l_1187, l_1188, l_1189, l_1190, zs0, zsI, zsL, zsR, ztl1, ztl0, zc0, zcI, zcL, zcR, true_and, and_true, true_implies, false_implies, implies_true, not_true_eq_false, not_false_eq_true, and_self, Int.toNat_natCast, Nat.reduceAdd, Nat.reduceLeDiff, Nat.reduceLT, forall_eq', Option.some.injEq, zarR, zarI, zarL, zle, zq0, zq1, zq2, zq3, zq4, zq5, zq6, zq8, zq9, zq10, zq20, zq7, zq12, zq24, zq40, zq41, zq48, zq100, zq120, zq123, zq480, zq492, zq700, zq729, zq2187, zq2916, zq8748, ne_eq, Int.reduceEq, Int.reduceLT, Int.reduceLE, Int.reduceToNat, Int.reduceMul, Int.reduceAdd, Int.reduceNeg, w1 trivial, e1, gk0 hg]
  apply l_1191 (by decide) c5 c6
  refine zRunD_mono ztb zmt' (d + 16) _ _ _ _ _ _ ?_ (p_led (d := d) hI _)
  rintro v G1 h1 ⟨κ, rfl, hκ, rfl, r⟩
  simp only [l_1194, l_1196, l_1197, l_1198, l_1200, l_1201, l_1202, l_1203, zs0, zsI, zsL, zsR, ztl1, ztl0, zc0, zcI, zcL, zcR, true_and, and_true, true_implies, false_implies, implies_true, not_true_eq_false, not_false_eq_true, and_self, Int.toNat_natCast, Nat.reduceAdd, Nat.reduceLeDiff, Nat.reduceLT, forall_eq', Option.some.injEq, zarR, zarI, zarL, zle, zq0, zq1, zq2, zq3, zq4, zq5, zq6, zq8, zq9, zq10, zq20, zq7, zq12, zq24, zq40, zq41, zq48, zq100, zq120, zq123, zq480, zq492, zq700, zq729, zq2187, zq2916, zq8748, ne_eq, Int.reduceEq, Int.reduceLT, Int.reduceLE, Int.reduceToNat, Int.reduceMul, Int.reduceAdd, Int.reduceNeg, w1 trivial, e1, gk91 hg, Nat.add_zero, c1, c2, c3, c4, c5, c6]
  refine zRunD_mono ztb zmt' (d + 16) _ _ _ _ _ _ ?_ r
  rintro v2 G2 h2 ⟨B, rfl, rfl, r2⟩
  simp only [l_1206, l_1208, l_1209, zs0, zsI, zsL, zsR, ztl1, ztl0, zc0, zcI, zcL, zcR, true_and, and_true, true_implies, false_implies, implies_true, not_true_eq_false, not_false_eq_true, and_self, Int.toNat_natCast, Nat.reduceAdd, Nat.reduceLeDiff, Nat.reduceLT, forall_eq', Option.some.injEq, zarR, zarI, zarL, zle, zq0, zq1, zq2, zq3, zq4, zq5, zq6, zq8, zq9, zq10, zq20, zq7, zq12, zq24, zq40, zq41, zq48, zq100, zq120, zq123, zq480, zq492, zq700, zq729, zq2187, zq2916, zq8748, ne_eq, Int.reduceEq, Int.reduceLT, Int.reduceLE, Int.reduceToNat, Int.reduceMul, Int.reduceAdd, Int.reduceNeg, gk91 hg, Nat.add_zero, c1, c2, c3, c4, c5, c6]
  refine zRunD_mono ztb zmt' (d + 16) _ _ _ _ _ _ ?_ r2
  rintro v3 G3 h3 ⟨rfl, rfl, I3, hb⟩
  rcases hκ with q | q
  · subst q
    have hb := hb rfl
    simp only [l_1212, l_1214, l_1217, l_1218, l_1219, l_1221, l_1224, l_1225, l_1226, l_1227, l_1229, l_1230, l_1231, l_1234, l_1235, l_1236, zs0, zsI, zsL, zsR, ztl1, ztl0, zc0, zcI, zcL, zcR, true_and, and_true, true_implies, false_implies, implies_true, not_true_eq_false, not_false_eq_true, and_self, Int.toNat_natCast, Nat.reduceAdd, Nat.reduceLeDiff, Nat.reduceLT, forall_eq', Option.some.injEq, zarR, zarI, zarL, zle, zq0, zq1, zq2, zq3, zq4, zq5, zq6, zq8, zq9, zq10, zq20, zq7, zq12, zq24, zq40, zq41, zq48, zq100, zq120, zq123, zq480, zq492, zq700, zq729, zq2187, zq2916, zq8748, ne_eq, Int.reduceEq, Int.reduceLT, Int.reduceLE, Int.reduceToNat, Int.reduceMul, Int.reduceAdd, Int.reduceNeg, gk120 hg, gl120 hg, hb, zlc_eq]
    exact K _ h3 _ _ _ _ I3 (by omega) (by omega)
  · subst q
    simp only [l_1212, l_1214, l_1217, l_1218, l_1219, l_1221, l_1224, l_1225, l_1226, l_1227, l_1229, l_1230, l_1231, l_1234, l_1235, l_1236, zs0, zsI, zsL, zsR, ztl1, ztl0, zc0, zcI, zcL, zcR, true_and, and_true, true_implies, false_implies, implies_true, not_true_eq_false, not_false_eq_true, and_self, Int.toNat_natCast, Nat.reduceAdd, Nat.reduceLeDiff, Nat.reduceLT, forall_eq', Option.some.injEq, zarR, zarI, zarL, zle, zq0, zq1, zq2, zq3, zq4, zq5, zq6, zq8, zq9, zq10, zq20, zq7, zq12, zq24, zq40, zq41, zq48, zq100, zq120, zq123, zq480, zq492, zq700, zq729, zq2187, zq2916, zq8748, ne_eq, Int.reduceEq, Int.reduceLT, Int.reduceLE, Int.reduceToNat, Int.reduceMul, Int.reduceAdd, Int.reduceNeg]
    exact K _ h3 _ _ _ _ I3 (by omega) (by omega)
theorem law_29 (hI : INV G h) (hi : i + 6 ≤ L) (hL : L ≤ 3072) (b1 : k1 + 12 ≤ 601024) (b2 : k2 + 61 ≤ 7293034) (K : ∀ (G' : zG) (h' : zM) (k1' k2' : Nat) (l5 l6 : Option zV), INV G' h' → k1' ≤ k1 + 12 → k2' ≤ k2 + 61 → zLw (d + 16) (1, L, f) Q 1351 [some (zT 1000), some (zR (some 0)), some (zR (some 91)), some (zR (some 120)), some (zI i), l5, l6] [] G' h' (k1', k2')) : zLw (d + 16) (1, L, f) Q 1239 [some (zT 1000), some (zR (some 0)), some (zR (some 91)), some (zR (some 120)), some (zI i), l5, l6] [] G h (k1, k2) := by
  have hg := hI.1
  have e1 : ((i + 1 : Nat) : Int) < (L : Int) := by omega
  have c1 : k1 ≤ 601024 := by omega
  have c2 : k2 ≤ 7293034 := by omega
  have c3 : k1 + 11 ≤ 601024 := by omega
  have c4 : k2 + 55 ≤ 7293034 := by omega
  have c5 : k1 + 1 ≤ 601024 := by omega
  have c6 : k2 + 6 ≤ 7293034 := by omega
  have w1 : True → wr ((i : Int) + 1) = ((i + 1 : Nat) : Int) := fun _ => wrN (by omega) (by omega)
  simp only [l_1239, l_1240, l_1241, l_1243, l_1244, l_1245, l_1246, zs0, zsI, zsL, zsR, ztl1, ztl0, zc0, zcI, zcL, zcR, true_and, and_true, true_implies, false_implies, implies_true, not_true_eq_false, not_false_eq_true, and_self, Int.toNat_natCast, Nat.reduceAdd, Nat.reduceLeDiff, Nat.reduceLT, forall_eq', Option.some.injEq, zarR, zarI, zarL, zle, zq0, zq1, zq2, zq3, zq4, zq5, zq6, zq8, zq9, zq10, zq20, zq7, zq12, zq24, zq40, zq41, zq48, zq100, zq120, zq123, zq480, zq492, zq700, zq729, zq2187, zq2916, zq8748, ne_eq, Int.reduceEq, Int.reduceLT, Int.reduceLE, Int.reduceToNat, Int.reduceMul, Int.reduceAdd, Int.reduceNeg, w1 trivial, e1, gk0 hg, Nat.add_zero, c1, c2, c3, c4, c5, c6]
  refine zRunD_mono ztb zmt' (d + 16) _ _ _ _ _ _ ?_ (PR_w (p_size (d := d) hI))
  rintro v G1 h1 ⟨z, rfl, gk, r⟩
  have k91 : G1.2.1 91 = 9 := by rw [gk]; exact gk91 hg
  simp only [l_1249, l_1250, l_1251, l_1253, l_1254, l_1255, l_1256, zs0, zsI, zsL, zsR, ztl1, ztl0, zc0, zcI, zcL, zcR, true_and, and_true, true_implies, false_implies, implies_true, not_true_eq_false, not_false_eq_true, and_self, Int.toNat_natCast, Nat.reduceAdd, Nat.reduceLeDiff, Nat.reduceLT, forall_eq', Option.some.injEq, zarR, zarI, zarL, zle, zq0, zq1, zq2, zq3, zq4, zq5, zq6, zq8, zq9, zq10, zq20, zq7, zq12, zq24, zq40, zq41, zq48, zq100, zq120, zq123, zq480, zq492, zq700, zq729, zq2187, zq2916, zq8748, ne_eq, Int.reduceEq, Int.reduceLT, Int.reduceLE, Int.reduceToNat, Int.reduceMul, Int.reduceAdd, Int.reduceNeg, w1 trivial, e1, k91, Nat.add_zero, c1, c2, c3, c4, c5, c6]
  refine zRunD_mono ztb zmt' (d + 16) _ _ _ _ _ _ ?_ r
  rintro v' G2 h2 ⟨rfl, I2⟩
  simp only [l_1259, l_1262, l_1263, zs0, zsI, zsL, zsR, ztl1, ztl0, zc0, zcI, zcL, zcR, true_and, and_true, true_implies, false_implies, implies_true, not_true_eq_false, not_false_eq_true, and_self, Int.toNat_natCast, Nat.reduceAdd, Nat.reduceLeDiff, Nat.reduceLT, forall_eq', Option.some.injEq, zarR, zarI, zarL, zle, zq0, zq1, zq2, zq3, zq4, zq5, zq6, zq8, zq9, zq10, zq20, zq7, zq12, zq24, zq40, zq41, zq48, zq100, zq120, zq123, zq480, zq492, zq700, zq729, zq2187, zq2916, zq8748, ne_eq, Int.reduceEq, Int.reduceLT, Int.reduceLE, Int.reduceToNat, Int.reduceMul, Int.reduceAdd, Int.reduceNeg, zlc_eq]
  exact K G2 h2 _ _ _ _ I2 (by omega) (by omega)
theorem law_30 (hI : INV G h) (hi : i + 6 ≤ L) (hL : L ≤ 3072) (b1 : k1 + 12 ≤ 601024) (b2 : k2 + 61 ≤ 7293034) (K : ∀ (G' : zG) (h' : zM) (k1' k2' : Nat) (l5 l6 : Option zV), INV G' h' → k1' ≤ k1 + 12 → k2' ≤ k2 + 61 → zLw (d + 16) (1, L, f) Q 1351 [some (zT 1000), some (zR (some 0)), some (zR (some 91)), some (zR (some 120)), some (zI i), l5, l6] [] G' h' (k1', k2')) : zLw (d + 16) (1, L, f) Q 1264 [some (zT 1000), some (zR (some 0)), some (zR (some 91)), some (zR (some 120)), some (zI i), l5, l6] [] G h (k1, k2) := by
  have hg := hI.1
  have e1 : ((i + 1 : Nat) : Int) < (L : Int) := by omega
  have e2 : ((i + 2 : Nat) : Int) < (L : Int) := by omega
  have c1 : k1 ≤ 601024 := by omega
  have c2 : k2 ≤ 7293034 := by omega
  have c3 : k1 + 11 ≤ 601024 := by omega
  have c4 : k2 + 55 ≤ 7293034 := by omega
  have c5 : k1 + 1 ≤ 601024 := by omega
  have c6 : k2 + 6 ≤ 7293034 := by omega
  have w1 : True → wr ((i : Int) + 1) = ((i + 1 : Nat) : Int) := fun _ => wrN (by omega) (by omega)
  have w2 : True → wr ((i : Int) + 2) = ((i + 2 : Nat) : Int) := fun _ => wrN (by omega) (by omega)
  simp only [l_1264, l_1265, l_1266, l_1268, l_1269, l_1270, l_1271, l_1272, l_1274, l_1275, l_1276, l_1277, zs0, zsI, zsL, zsR, ztl1, ztl0, zc0, zcI, zcL, zcR, true_and, and_true, true_implies, false_implies, implies_true, not_true_eq_false, not_false_eq_true, and_self, Int.toNat_natCast, Nat.reduceAdd, Nat.reduceLeDiff, Nat.reduceLT, forall_eq', Option.some.injEq, zarR, zarI, zarL, zle, zq0, zq1, zq2, zq3, zq4, zq5, zq6, zq8, zq9, zq10, zq20, zq7, zq12, zq24, zq40, zq41, zq48, zq100, zq120, zq123, zq480, zq492, zq700, zq729, zq2187, zq2916, zq8748, ne_eq, Int.reduceEq, Int.reduceLT, Int.reduceLE, Int.reduceToNat, Int.reduceMul, Int.reduceAdd, Int.reduceNeg, w1 trivial, e1, w2 trivial, e2, gk0 hg, Nat.add_zero, c1, c2, c3, c4, c5, c6]
  refine zRunD_mono ztb zmt' (d + 16) _ _ _ _ _ _ ?_ (PR_w (p_baker (d := d) hI))
  rintro v G1 h1 ⟨z, rfl, gk, r⟩
  have k91 : G1.2.1 91 = 9 := by rw [gk]; exact gk91 hg
  simp only [l_1280, l_1281, l_1282, l_1284, l_1285, l_1286, l_1287, l_1288, l_1290, l_1291, l_1292, l_1293, zs0, zsI, zsL, zsR, ztl1, ztl0, zc0, zcI, zcL, zcR, true_and, and_true, true_implies, false_implies, implies_true, not_true_eq_false, not_false_eq_true, and_self, Int.toNat_natCast, Nat.reduceAdd, Nat.reduceLeDiff, Nat.reduceLT, forall_eq', Option.some.injEq, zarR, zarI, zarL, zle, zq0, zq1, zq2, zq3, zq4, zq5, zq6, zq8, zq9, zq10, zq20, zq7, zq12, zq24, zq40, zq41, zq48, zq100, zq120, zq123, zq480, zq492, zq700, zq729, zq2187, zq2916, zq8748, ne_eq, Int.reduceEq, Int.reduceLT, Int.reduceLE, Int.reduceToNat, Int.reduceMul, Int.reduceAdd, Int.reduceNeg, w1 trivial, e1, w2 trivial, e2, k91, Nat.add_zero, c1, c2, c3, c4, c5, c6]
  refine zRunD_mono ztb zmt' (d + 16) _ _ _ _ _ _ ?_ r
  rintro v' G2 h2 ⟨rfl, I2⟩
  simp only [l_1296, l_1299, l_1300, zs0, zsI, zsL, zsR, ztl1, ztl0, zc0, zcI, zcL, zcR, true_and, and_true, true_implies, false_implies, implies_true, not_true_eq_false, not_false_eq_true, and_self, Int.toNat_natCast, Nat.reduceAdd, Nat.reduceLeDiff, Nat.reduceLT, forall_eq', Option.some.injEq, zarR, zarI, zarL, zle, zq0, zq1, zq2, zq3, zq4, zq5, zq6, zq8, zq9, zq10, zq20, zq7, zq12, zq24, zq40, zq41, zq48, zq100, zq120, zq123, zq480, zq492, zq700, zq729, zq2187, zq2916, zq8748, ne_eq, Int.reduceEq, Int.reduceLT, Int.reduceLE, Int.reduceToNat, Int.reduceMul, Int.reduceAdd, Int.reduceNeg, zlc_eq]
  exact K G2 h2 _ _ _ _ I2 (by omega) (by omega)
theorem law_31 (hI : INV G h) (hi : i + 6 ≤ L) (hL : L ≤ 3072) (b1 : k1 + 12 ≤ 601024) (b2 : k2 + 61 ≤ 7293034) (K : ∀ (G' : zG) (h' : zM) (k1' k2' : Nat) (l5 l6 : Option zV), INV G' h' → k1' ≤ k1 + 12 → k2' ≤ k2 + 61 → zLw (d + 16) (1, L, f) Q 1351 [some (zT 1000), some (zR (some 0)), some (zR (some 91)), some (zR (some 120)), some (zI i), l5, l6] [] G' h' (k1', k2')) : zLw (d + 16) (1, L, f) Q 1301 [some (zT 1000), some (zR (some 0)), some (zR (some 91)), some (zR (some 120)), some (zI i), l5, l6] [] G h (k1, k2) := by
  have hg := hI.1
  have e1 : ((i + 1 : Nat) : Int) < (L : Int) := by omega
  have e2 : ((i + 2 : Nat) : Int) < (L : Int) := by omega
  have c1 : k1 ≤ 601024 := by omega
  have c2 : k2 ≤ 7293034 := by omega
  have c3 : k1 + 11 ≤ 601024 := by omega
  have c4 : k2 + 55 ≤ 7293034 := by omega
  have c5 : k1 + 1 ≤ 601024 := by omega
  have c6 : k2 + 6 ≤ 7293034 := by omega
  have w1 : True → wr ((i : Int) + 1) = ((i + 1 : Nat) : Int) := fun _ => wrN (by omega) (by omega)
  have w2 : True → wr ((i : Int) + 2) = ((i + 2 : Nat) : Int) := fun _ => wrN (by omega) (by omega)
  simp only [l_1301, l_1302, l_1303, l_1305, l_1306, l_1307, l_1308, l_1309, l_1311, l_1312, l_1313, l_1314, zs0, zsI, zsL, zsR, ztl1, ztl0, zc0, zcI, zcL, zcR, true_and, and_true, true_implies, false_implies, implies_true, not_true_eq_false, not_false_eq_true, and_self, Int.toNat_natCast, Nat.reduceAdd, Nat.reduceLeDiff, Nat.reduceLT, forall_eq', Option.some.injEq, zarR, zarI, zarL, zle, zq0, zq1, zq2, zq3, zq4, zq5, zq6, zq8, zq9, zq10, zq20, zq7, zq12, zq24, zq40, zq41, zq48, zq100, zq120, zq123, zq480, zq492, zq700, zq729, zq2187, zq2916, zq8748, ne_eq, Int.reduceEq, Int.reduceLT, Int.reduceLE, Int.reduceToNat, Int.reduceMul, Int.reduceAdd, Int.reduceNeg, w1 trivial, e1, w2 trivial, e2, gk0 hg, Nat.add_zero, c1, c2, c3, c4, c5, c6]
  refine zRunD_mono ztb zmt' (d + 16) _ _ _ _ _ _ ?_ (PR_w (p_sort (d := d) hI))
  rintro v G1 h1 ⟨z, rfl, gk, r⟩
  have k91 : G1.2.1 91 = 9 := by rw [gk]; exact gk91 hg
  simp only [l_1317, l_1318, l_1319, l_1321, l_1322, l_1323, l_1324, l_1325, l_1327, l_1328, l_1329, l_1330, zs0, zsI, zsL, zsR, ztl1, ztl0, zc0, zcI, zcL, zcR, true_and, and_true, true_implies, false_implies, implies_true, not_true_eq_false, not_false_eq_true, and_self, Int.toNat_natCast, Nat.reduceAdd, Nat.reduceLeDiff, Nat.reduceLT, forall_eq', Option.some.injEq, zarR, zarI, zarL, zle, zq0, zq1, zq2, zq3, zq4, zq5, zq6, zq8, zq9, zq10, zq20, zq7, zq12, zq24, zq40, zq41, zq48, zq100, zq120, zq123, zq480, zq492, zq700, zq729, zq2187, zq2916, zq8748, ne_eq, Int.reduceEq, Int.reduceLT, Int.reduceLE, Int.reduceToNat, Int.reduceMul, Int.reduceAdd, Int.reduceNeg, w1 trivial, e1, w2 trivial, e2, k91, Nat.add_zero, c1, c2, c3, c4, c5, c6]
  refine zRunD_mono ztb zmt' (d + 16) _ _ _ _ _ _ ?_ r
  rintro v' G2 h2 ⟨rfl, I2⟩
  simp only [l_1333, l_1336, l_1337, zs0, zsI, zsL, zsR, ztl1, ztl0, zc0, zcI, zcL, zcR, true_and, and_true, true_implies, false_implies, implies_true, not_true_eq_false, not_false_eq_true, and_self, Int.toNat_natCast, Nat.reduceAdd, Nat.reduceLeDiff, Nat.reduceLT, forall_eq', Option.some.injEq, zarR, zarI, zarL, zle, zq0, zq1, zq2, zq3, zq4, zq5, zq6, zq8, zq9, zq10, zq20, zq7, zq12, zq24, zq40, zq41, zq48, zq100, zq120, zq123, zq480, zq492, zq700, zq729, zq2187, zq2916, zq8748, ne_eq, Int.reduceEq, Int.reduceLT, Int.reduceLE, Int.reduceToNat, Int.reduceMul, Int.reduceAdd, Int.reduceNeg, zlc_eq]
  exact K G2 h2 _ _ _ _ I2 (by omega) (by omega)
theorem law_32 (hI : INV G h) (hi : i + 6 ≤ L) (hL : L ≤ 3072) (b1 : k1 + 12 ≤ 601024) (b2 : k2 + 61 ≤ 7293034) (K : ∀ (G' : zG) (h' : zM) (k1' k2' : Nat) (l5 l6 : Option zV), INV G' h' → k1' ≤ k1 + 12 → k2' ≤ k2 + 61 → zLw (d + 16) (1, L, f) Q 1351 [some (zT 1000), some (zR (some 0)), some (zR (some 91)), some (zR (some 120)), some (zI i), l5, l6] [] G' h' (k1', k2')) : zLw (d + 16) (1, L, f) Q 1338 [some (zT 1000), some (zR (some 0)), some (zR (some 91)), some (zR (some 120)), some (zI i), l5, l6] [] G h (k1, k2) := by
  have hg := hI.1
  have c1 : k1 ≤ 601024 := by omega
  have c2 : k2 ≤ 7293034 := by omega
  have c3 : k1 + 11 ≤ 601024 := by omega
  have c4 : k2 + 55 ≤ 7293034 := by omega
  have c5 : k1 + 1 ≤ 601024 := by omega
  have c6 : k2 + 6 ≤ 7293034 := by omega
  simp only [l_1338, l_1339, zs0, zsI, zsL, zsR, ztl1, ztl0, zc0, zcI, zcL, zcR, true_and, and_true, true_implies, false_implies, implies_true, not_true_eq_false, not_false_eq_true, and_self, Int.toNat_natCast, Nat.reduceAdd, Nat.reduceLeDiff, Nat.reduceLT, forall_eq', Option.some.injEq, zarR, zarI, zarL, zle, zq0, zq1, zq2, zq3, zq4, zq5, zq6, zq8, zq9, zq10, zq20, zq7, zq12, zq24, zq40, zq41, zq48, zq100, zq120, zq123, zq480, zq492, zq700, zq729, zq2187, zq2916, zq8748, ne_eq, Int.reduceEq, Int.reduceLT, Int.reduceLE, Int.reduceToNat, Int.reduceMul, Int.reduceAdd, Int.reduceNeg, gk0 hg, Nat.add_zero, c1, c2, c3, c4, c5, c6]
  refine zRunD_mono ztb zmt' (d + 16) _ _ _ _ _ _ ?_ (PR_w (p_trouble (d := d) hI))
  rintro v G1 h1 ⟨z, rfl, gk, r⟩
  have k91 : G1.2.1 91 = 9 := by rw [gk]; exact gk91 hg
  simp only [l_1342, l_1343, zs0, zsI, zsL, zsR, ztl1, ztl0, zc0, zcI, zcL, zcR, true_and, and_true, true_implies, false_implies, implies_true, not_true_eq_false, not_false_eq_true, and_self, Int.toNat_natCast, Nat.reduceAdd, Nat.reduceLeDiff, Nat.reduceLT, forall_eq', Option.some.injEq, zarR, zarI, zarL, zle, zq0, zq1, zq2, zq3, zq4, zq5, zq6, zq8, zq9, zq10, zq20, zq7, zq12, zq24, zq40, zq41, zq48, zq100, zq120, zq123, zq480, zq492, zq700, zq729, zq2187, zq2916, zq8748, ne_eq, Int.reduceEq, Int.reduceLT, Int.reduceLE, Int.reduceToNat, Int.reduceMul, Int.reduceAdd, Int.reduceNeg, k91, Nat.add_zero, c1, c2, c3, c4, c5, c6]
  refine zRunD_mono ztb zmt' (d + 16) _ _ _ _ _ _ ?_ r
  rintro v' G2 h2 ⟨rfl, I2⟩
  simp only [l_1346, l_1349, l_1350, zs0, zsI, zsL, zsR, ztl1, ztl0, zc0, zcI, zcL, zcR, true_and, and_true, true_implies, false_implies, implies_true, not_true_eq_false, not_false_eq_true, and_self, Int.toNat_natCast, Nat.reduceAdd, Nat.reduceLeDiff, Nat.reduceLT, forall_eq', Option.some.injEq, zarR, zarI, zarL, zle, zq0, zq1, zq2, zq3, zq4, zq5, zq6, zq8, zq9, zq10, zq20, zq7, zq12, zq24, zq40, zq41, zq48, zq100, zq120, zq123, zq480, zq492, zq700, zq729, zq2187, zq2916, zq8748, ne_eq, Int.reduceEq, Int.reduceLT, Int.reduceLE, Int.reduceToNat, Int.reduceMul, Int.reduceAdd, Int.reduceNeg, zlc_eq]
  exact K G2 h2 _ _ _ _ I2 (by omega) (by omega)
theorem law_loop (hL : L ≤ 3072) (hQ : ∀ (G : zG) (h : zM), Q (some (zI 1)) G h) : ∀ (j i : Nat) (G : zG) (h : zM) (k1 k2 : Nat) (l5 l6 : Option zV), L - i ≤ j → i ≤ L → INV G h → k1 + 12 * (L - i) ≤ 600000 → k2 + 61 * (L - i) ≤ 7000000 → zLw (d + 16) (1, L, f) Q 23 [some (zT 1000), some (zR (some 0)), some (zR (some 91)), some (zR (some 120)), some (zI i), l5, l6] [] G h (k1, k2) := by
  intro j
  induction j with
  | zero =>
    intro i G h k1 k2 l5 l6 hj hi hI b1 b2
    have w : True → wr ((L : Int) - 6) = (L : Int) - 6 := fun _ => wr_id (by omega)
    have c : (L : Int) - 6 < i := by omega
    have cL : L < 2147483648 := by omega
    have qq := hQ G h
    simp only [l_23, l_25, l_26, l_27, l_29, l_30, l_1357, l_1358, zs0, zsI, zsL, zsR, ztl1, ztl0, zc0, zcI, zcL, zcR, true_and, and_true, true_implies, false_implies, implies_true, not_true_eq_false, not_false_eq_true, and_self, Int.toNat_natCast, Nat.reduceAdd, Nat.reduceLeDiff, Nat.reduceLT, forall_eq', Option.some.injEq, zarR, zarI, zarL, zle, zq0, zq1, zq2, zq3, zq4, zq5, zq6, zq8, zq9, zq10, zq20, zq7, zq12, zq24, zq40, zq41, zq48, zq100, zq120, zq123, zq480, zq492, zq700, zq729, zq2187, zq2916, zq8748, ne_eq, Int.reduceEq, Int.reduceLT, Int.reduceLE, Int.reduceToNat, Int.reduceMul, Int.reduceAdd, Int.reduceNeg, w trivial, c, cL, or_true, true_or]
    exact qq
  | succ j ih =>
    intro i G h k1 k2 l5 l6 hj hi hI b1 b2
    have cL : L < 2147483648 := by omega
    by_cases c : (L : Int) - 6 < i
    · have w : True → wr ((L : Int) - 6) = (L : Int) - 6 := fun _ => wr_id (by omega)
      have qq := hQ G h
      simp only [l_23, l_25, l_26, l_27, l_29, l_30, l_1357, l_1358, zs0, zsI, zsL, zsR, ztl1, ztl0, zc0, zcI, zcL, zcR, true_and, and_true, true_implies, false_implies, implies_true, not_true_eq_false, not_false_eq_true, and_self, Int.toNat_natCast, Nat.reduceAdd, Nat.reduceLeDiff, Nat.reduceLT, forall_eq', Option.some.injEq, zarR, zarI, zarL, zle, zq0, zq1, zq2, zq3, zq4, zq5, zq6, zq8, zq9, zq10, zq20, zq7, zq12, zq24, zq40, zq41, zq48, zq100, zq120, zq123, zq480, zq492, zq700, zq729, zq2187, zq2916, zq8748, ne_eq, Int.reduceEq, Int.reduceLT, Int.reduceLE, Int.reduceToNat, Int.reduceMul, Int.reduceAdd, Int.reduceNeg, w trivial, c, cL, or_true, true_or]
      exact qq
    · have i6 : i + 6 ≤ L := by omega
      have K : ∀ (G' : zG) (h' : zM) (k1' k2' : Nat) (l5 l6 : Option zV), INV G' h' → k1' ≤ k1 + 12 → k2' ≤ k2 + 61 → zLw (d + 16) (1, L, f) Q 1351 [some (zT 1000), some (zR (some 0)), some (zR (some 91)), some (zR (some 120)), some (zI i), l5, l6] [] G' h' (k1', k2') := by
        intro G' h' k1' k2' l5 l6 I' q1 q2
        have nx := ih (i + 6) G' h' k1' k2' (zclr l5) l6
        have w6 : True → wr ((i : Int) + 6) = ((i + 6 : Nat) : Int) := fun _ => wrN (by omega) (by omega)
        simp only [l_1351, l_1354, zs0, zsI, zsL, zsR, ztl1, ztl0, zc0, zcI, zcL, zcR, true_and, and_true, true_implies, false_implies, implies_true, not_true_eq_false, not_false_eq_true, and_self, Int.toNat_natCast, Nat.reduceAdd, Nat.reduceLeDiff, Nat.reduceLT, forall_eq', Option.some.injEq, zarR, zarI, zarL, zle, zq0, zq1, zq2, zq3, zq4, zq5, zq6, zq8, zq9, zq10, zq20, zq7, zq12, zq24, zq40, zq41, zq48, zq100, zq120, zq123, zq480, zq492, zq700, zq729, zq2187, zq2916, zq8748, ne_eq, Int.reduceEq, Int.reduceLT, Int.reduceLE, Int.reduceToNat, Int.reduceMul, Int.reduceAdd, Int.reduceNeg, w6 trivial]
        exact ih (i + 6) G' h' k1' k2' _ _ (by omega) (by omega) I' (by omega) (by omega)
      have b1' : k1 + 12 ≤ 601024 := by omega
      have b2' : k2 + 61 ≤ 7293034 := by omega
      have ei : (i : Int) < (L : Int) := by omega
      have w : True → wr ((L : Int) - 6) = (L : Int) - 6 := fun _ => wr_id (by omega)
      simp only [l_23, l_25, l_26, l_27, l_29, l_30, l_33, l_34, l_36, l_37, l_39, l_40, zs0, zsI, zsL, zsR, ztl1, ztl0, zc0, zcI, zcL, zcR, true_and, and_true, true_implies, false_implies, implies_true, not_true_eq_false, not_false_eq_true, and_self, Int.toNat_natCast, Nat.reduceAdd, Nat.reduceLeDiff, Nat.reduceLT, forall_eq', Option.some.injEq, zarR, zarI, zarL, zle, zq0, zq1, zq2, zq3, zq4, zq5, zq6, zq8, zq9, zq10, zq20, zq7, zq12, zq24, zq40, zq41, zq48, zq100, zq120, zq123, zq480, zq492, zq700, zq729, zq2187, zq2916, zq8748, ne_eq, Int.reduceEq, Int.reduceLT, Int.reduceLE, Int.reduceToNat, Int.reduceMul, Int.reduceAdd, Int.reduceNeg, w trivial, c, cL, ei]
      generalize zand (f i) 63 = op

      by_cases q0 : op = 0
      · rw [q0, show ztsw 40 1311 0 32 #[148, 221, 246, 259, 272, 321, 370, 407, 456, 481, 506, 531, 568, 606, 631, 668, 694, 720, 745, 795, 845, 882, 932, 982, 1019, 1056, 1093, 1106, 1143, 1199, 1224, 1261, 1298] 0 = 188 by decide]
        exact law_0 hI i6 hL b1' b2' K
      by_cases q1 : op = 1
      · rw [q1, show ztsw 40 1311 0 32 #[148, 221, 246, 259, 272, 321, 370, 407, 456, 481, 506, 531, 568, 606, 631, 668, 694, 720, 745, 795, 845, 882, 932, 982, 1019, 1056, 1093, 1106, 1143, 1199, 1224, 1261, 1298] 1 = 261 by decide]
        exact law_1 hI i6 hL b1' b2' K
      by_cases q2 : op = 2
      · rw [q2, show ztsw 40 1311 0 32 #[148, 221, 246, 259, 272, 321, 370, 407, 456, 481, 506, 531, 568, 606, 631, 668, 694, 720, 745, 795, 845, 882, 932, 982, 1019, 1056, 1093, 1106, 1143, 1199, 1224, 1261, 1298] 2 = 286 by decide]
        exact law_2 hI i6 hL b1' b2' K
      by_cases q3 : op = 3
      · rw [q3, show ztsw 40 1311 0 32 #[148, 221, 246, 259, 272, 321, 370, 407, 456, 481, 506, 531, 568, 606, 631, 668, 694, 720, 745, 795, 845, 882, 932, 982, 1019, 1056, 1093, 1106, 1143, 1199, 1224, 1261, 1298] 3 = 299 by decide]
        exact law_3 hI i6 hL b1' b2' K
      by_cases q4 : op = 4
      · rw [q4, show ztsw 40 1311 0 32 #[148, 221, 246, 259, 272, 321, 370, 407, 456, 481, 506, 531, 568, 606, 631, 668, 694, 720, 745, 795, 845, 882, 932, 982, 1019, 1056, 1093, 1106, 1143, 1199, 1224, 1261, 1298] 4 = 312 by decide]
        exact law_4 hI i6 hL b1' b2' K
      by_cases q5 : op = 5
      · rw [q5, show ztsw 40 1311 0 32 #[148, 221, 246, 259, 272, 321, 370, 407, 456, 481, 506, 531, 568, 606, 631, 668, 694, 720, 745, 795, 845, 882, 932, 982, 1019, 1056, 1093, 1106, 1143, 1199, 1224, 1261, 1298] 5 = 361 by decide]
        exact law_5 hI i6 hL b1' b2' K
      by_cases q6 : op = 6
      · rw [q6, show ztsw 40 1311 0 32 #[148, 221, 246, 259, 272, 321, 370, 407, 456, 481, 506, 531, 568, 606, 631, 668, 694, 720, 745, 795, 845, 882, 932, 982, 1019, 1056, 1093, 1106, 1143, 1199, 1224, 1261, 1298] 6 = 410 by decide]
        exact law_6 hI i6 hL b1' b2' K
      by_cases q7 : op = 7
      · rw [q7, show ztsw 40 1311 0 32 #[148, 221, 246, 259, 272, 321, 370, 407, 456, 481, 506, 531, 568, 606, 631, 668, 694, 720, 745, 795, 845, 882, 932, 982, 1019, 1056, 1093, 1106, 1143, 1199, 1224, 1261, 1298] 7 = 447 by decide]
        exact law_7 hI i6 hL b1' b2' K
      by_cases q8 : op = 8
      · rw [q8, show ztsw 40 1311 0 32 #[148, 221, 246, 259, 272, 321, 370, 407, 456, 481, 506, 531, 568, 606, 631, 668, 694, 720, 745, 795, 845, 882, 932, 982, 1019, 1056, 1093, 1106, 1143, 1199, 1224, 1261, 1298] 8 = 496 by decide]
        exact law_8 hI i6 hL b1' b2' K
      by_cases q9 : op = 9
      · rw [q9, show ztsw 40 1311 0 32 #[148, 221, 246, 259, 272, 321, 370, 407, 456, 481, 506, 531, 568, 606, 631, 668, 694, 720, 745, 795, 845, 882, 932, 982, 1019, 1056, 1093, 1106, 1143, 1199, 1224, 1261, 1298] 9 = 521 by decide]
        exact law_9 hI i6 hL b1' b2' K
      by_cases q10 : op = 10
      · rw [q10, show ztsw 40 1311 0 32 #[148, 221, 246, 259, 272, 321, 370, 407, 456, 481, 506, 531, 568, 606, 631, 668, 694, 720, 745, 795, 845, 882, 932, 982, 1019, 1056, 1093, 1106, 1143, 1199, 1224, 1261, 1298] 10 = 546 by decide]
        exact law_10 hI i6 hL b1' b2' K
      by_cases q11 : op = 11
      · rw [q11, show ztsw 40 1311 0 32 #[148, 221, 246, 259, 272, 321, 370, 407, 456, 481, 506, 531, 568, 606, 631, 668, 694, 720, 745, 795, 845, 882, 932, 982, 1019, 1056, 1093, 1106, 1143, 1199, 1224, 1261, 1298] 11 = 571 by decide]
        exact law_11 hI i6 hL b1' b2' K
      by_cases q12 : op = 12
      · rw [q12, show ztsw 40 1311 0 32 #[148, 221, 246, 259, 272, 321, 370, 407, 456, 481, 506, 531, 568, 606, 631, 668, 694, 720, 745, 795, 845, 882, 932, 982, 1019, 1056, 1093, 1106, 1143, 1199, 1224, 1261, 1298] 12 = 608 by decide]
        exact law_12 hI i6 hL b1' b2' K
      by_cases q13 : op = 13
      · rw [q13, show ztsw 40 1311 0 32 #[148, 221, 246, 259, 272, 321, 370, 407, 456, 481, 506, 531, 568, 606, 631, 668, 694, 720, 745, 795, 845, 882, 932, 982, 1019, 1056, 1093, 1106, 1143, 1199, 1224, 1261, 1298] 13 = 646 by decide]
        exact law_13 hI i6 hL b1' b2' K
      by_cases q14 : op = 14
      · rw [q14, show ztsw 40 1311 0 32 #[148, 221, 246, 259, 272, 321, 370, 407, 456, 481, 506, 531, 568, 606, 631, 668, 694, 720, 745, 795, 845, 882, 932, 982, 1019, 1056, 1093, 1106, 1143, 1199, 1224, 1261, 1298] 14 = 671 by decide]
        exact law_14 hI i6 hL b1' b2' K
      by_cases q15 : op = 15
      · rw [q15, show ztsw 40 1311 0 32 #[148, 221, 246, 259, 272, 321, 370, 407, 456, 481, 506, 531, 568, 606, 631, 668, 694, 720, 745, 795, 845, 882, 932, 982, 1019, 1056, 1093, 1106, 1143, 1199, 1224, 1261, 1298] 15 = 708 by decide]
        exact law_15 hI i6 hL b1' b2' K
      by_cases q16 : op = 16
      · rw [q16, show ztsw 40 1311 0 32 #[148, 221, 246, 259, 272, 321, 370, 407, 456, 481, 506, 531, 568, 606, 631, 668, 694, 720, 745, 795, 845, 882, 932, 982, 1019, 1056, 1093, 1106, 1143, 1199, 1224, 1261, 1298] 16 = 734 by decide]
        exact law_16 hI i6 hL b1' b2' K
      by_cases q17 : op = 17
      · rw [q17, show ztsw 40 1311 0 32 #[148, 221, 246, 259, 272, 321, 370, 407, 456, 481, 506, 531, 568, 606, 631, 668, 694, 720, 745, 795, 845, 882, 932, 982, 1019, 1056, 1093, 1106, 1143, 1199, 1224, 1261, 1298] 17 = 760 by decide]
        exact law_17 hI i6 hL b1' b2' K
      by_cases q18 : op = 18
      · rw [q18, show ztsw 40 1311 0 32 #[148, 221, 246, 259, 272, 321, 370, 407, 456, 481, 506, 531, 568, 606, 631, 668, 694, 720, 745, 795, 845, 882, 932, 982, 1019, 1056, 1093, 1106, 1143, 1199, 1224, 1261, 1298] 18 = 785 by decide]
        exact law_18 hI i6 hL b1' b2' K
      by_cases q19 : op = 19
      · rw [q19, show ztsw 40 1311 0 32 #[148, 221, 246, 259, 272, 321, 370, 407, 456, 481, 506, 531, 568, 606, 631, 668, 694, 720, 745, 795, 845, 882, 932, 982, 1019, 1056, 1093, 1106, 1143, 1199, 1224, 1261, 1298] 19 = 835 by decide]
        exact law_19 hI i6 hL b1' b2' K
      by_cases q20 : op = 20
      · rw [q20, show ztsw 40 1311 0 32 #[148, 221, 246, 259, 272, 321, 370, 407, 456, 481, 506, 531, 568, 606, 631, 668, 694, 720, 745, 795, 845, 882, 932, 982, 1019, 1056, 1093, 1106, 1143, 1199, 1224, 1261, 1298] 20 = 885 by decide]
        exact law_20 hI i6 hL b1' b2' K
      by_cases q21 : op = 21
      · rw [q21, show ztsw 40 1311 0 32 #[148, 221, 246, 259, 272, 321, 370, 407, 456, 481, 506, 531, 568, 606, 631, 668, 694, 720, 745, 795, 845, 882, 932, 982, 1019, 1056, 1093, 1106, 1143, 1199, 1224, 1261, 1298] 21 = 922 by decide]
        exact law_21 hI i6 hL b1' b2' K
      by_cases q22 : op = 22
      · rw [q22, show ztsw 40 1311 0 32 #[148, 221, 246, 259, 272, 321, 370, 407, 456, 481, 506, 531, 568, 606, 631, 668, 694, 720, 745, 795, 845, 882, 932, 982, 1019, 1056, 1093, 1106, 1143, 1199, 1224, 1261, 1298] 22 = 972 by decide]
        exact law_22 hI i6 hL b1' b2' K
      by_cases q23 : op = 23
      · rw [q23, show ztsw 40 1311 0 32 #[148, 221, 246, 259, 272, 321, 370, 407, 456, 481, 506, 531, 568, 606, 631, 668, 694, 720, 745, 795, 845, 882, 932, 982, 1019, 1056, 1093, 1106, 1143, 1199, 1224, 1261, 1298] 23 = 1022 by decide]
        exact law_23 hI i6 hL b1' b2' K
      by_cases q24 : op = 24
      · rw [q24, show ztsw 40 1311 0 32 #[148, 221, 246, 259, 272, 321, 370, 407, 456, 481, 506, 531, 568, 606, 631, 668, 694, 720, 745, 795, 845, 882, 932, 982, 1019, 1056, 1093, 1106, 1143, 1199, 1224, 1261, 1298] 24 = 1059 by decide]
        exact law_24 hI i6 hL b1' b2' K
      by_cases q25 : op = 25
      · rw [q25, show ztsw 40 1311 0 32 #[148, 221, 246, 259, 272, 321, 370, 407, 456, 481, 506, 531, 568, 606, 631, 668, 694, 720, 745, 795, 845, 882, 932, 982, 1019, 1056, 1093, 1106, 1143, 1199, 1224, 1261, 1298] 25 = 1096 by decide]
        exact law_25 hI i6 hL b1' b2' K
      by_cases q26 : op = 26
      · rw [q26, show ztsw 40 1311 0 32 #[148, 221, 246, 259, 272, 321, 370, 407, 456, 481, 506, 531, 568, 606, 631, 668, 694, 720, 745, 795, 845, 882, 932, 982, 1019, 1056, 1093, 1106, 1143, 1199, 1224, 1261, 1298] 26 = 1133 by decide]
        exact law_26 hI i6 hL b1' b2' K
      by_cases q27 : op = 27
      · rw [q27, show ztsw 40 1311 0 32 #[148, 221, 246, 259, 272, 321, 370, 407, 456, 481, 506, 531, 568, 606, 631, 668, 694, 720, 745, 795, 845, 882, 932, 982, 1019, 1056, 1093, 1106, 1143, 1199, 1224, 1261, 1298] 27 = 1146 by decide]
        exact law_27 hI i6 hL b1' b2' K
      by_cases q28 : op = 28
      · rw [q28, show ztsw 40 1311 0 32 #[148, 221, 246, 259, 272, 321, 370, 407, 456, 481, 506, 531, 568, 606, 631, 668, 694, 720, 745, 795, 845, 882, 932, 982, 1019, 1056, 1093, 1106, 1143, 1199, 1224, 1261, 1298] 28 = 1183 by decide]
        exact law_28 hI i6 hL b1' b2' K
      by_cases q29 : op = 29
      · rw [q29, show ztsw 40 1311 0 32 #[148, 221, 246, 259, 272, 321, 370, 407, 456, 481, 506, 531, 568, 606, 631, 668, 694, 720, 745, 795, 845, 882, 932, 982, 1019, 1056, 1093, 1106, 1143, 1199, 1224, 1261, 1298] 29 = 1239 by decide]
        exact law_29 hI i6 hL b1' b2' K
      by_cases q30 : op = 30
      · rw [q30, show ztsw 40 1311 0 32 #[148, 221, 246, 259, 272, 321, 370, 407, 456, 481, 506, 531, 568, 606, 631, 668, 694, 720, 745, 795, 845, 882, 932, 982, 1019, 1056, 1093, 1106, 1143, 1199, 1224, 1261, 1298] 30 = 1264 by decide]
        exact law_30 hI i6 hL b1' b2' K
      by_cases q31 : op = 31
      · rw [q31, show ztsw 40 1311 0 32 #[148, 221, 246, 259, 272, 321, 370, 407, 456, 481, 506, 531, 568, 606, 631, 668, 694, 720, 745, 795, 845, 882, 932, 982, 1019, 1056, 1093, 1106, 1143, 1199, 1224, 1261, 1298] 31 = 1301 by decide]
        exact law_31 hI i6 hL b1' b2' K
      by_cases q32 : op = 32
      · rw [q32, show ztsw 40 1311 0 32 #[148, 221, 246, 259, 272, 321, 370, 407, 456, 481, 506, 531, 568, 606, 631, 668, 694, 720, 745, 795, 845, 882, 932, 982, 1019, 1056, 1093, 1106, 1143, 1199, 1224, 1261, 1298] 32 = 1338 by decide]
        exact law_32 hI i6 hL b1' b2' K
      rw [show ztsw 40 1311 0 32 #[148, 221, 246, 259, 272, 321, 370, 407, 456, 481, 506, 531, 568, 606, 631, 668, 694, 720, 745, 795, 845, 882, 932, 982, 1019, 1056, 1093, 1106, 1143, 1199, 1224, 1261, 1298] op = 1351 by
        unfold ztsw
        rw [if_pos (by omega)]
        rfl]
      exact K G h k1 k2 _ _ hI (by omega) (by omega)
theorem law_start (hL : L ≤ 3072) (hQ : ∀ (G : zG) (h : zM), Q (some (zI 1)) G h) : zLw (d + 16) (1, L, f) Q 0 [some (zT 1000), none, none, none, none, none, none] [] (gl cL0) (hl cW0) (0, 0) := by
  have c7 := fun Q' => cK12 (d := d + 11) (Q := Q')
  have c9 := fun Q' => cK13 (d := d + 15) (Q := Q')
  simp only [l_0, l_3, l_4, l_7, l_8, l_11, l_12, l_15, l_16, l_17, l_19, l_20, l_21, zs0, zsI, zsL, zsR, ztl1, ztl0, zc0, zcI, zcL, zcR, true_and, and_true, true_implies, false_implies, implies_true, not_true_eq_false, not_false_eq_true, and_self, Int.toNat_natCast, Nat.reduceAdd, Nat.reduceLeDiff, Nat.reduceLT, forall_eq', Option.some.injEq, zarR, zarI, zarL, zle, zq0, zq1, zq2, zq3, zq4, zq5, zq6, zq8, zq9, zq10, zq20, zq7, zq12, zq24, zq40, zq41, zq48, zq100, zq120, zq123, zq480, zq492, zq700, zq729, zq2187, zq2916, zq8748, ne_eq, Int.reduceEq, Int.reduceLT, Int.reduceLE, Int.reduceToNat, Int.reduceMul, Int.reduceAdd, Int.reduceNeg, cF1, cF2, cF3, cF4, cF534, cF535, cF536, cF537, cF680, cF681, cF682, c7, c9]
  have l0 := law_loop (d := d) (f := f) hL hQ L 0 (gl cL229) (hl cW37) 133 22268 none none (by omega) (by omega) cI (by omega) (by omega)
  rw [zq0] at l0
  exact l0
end PLAW
