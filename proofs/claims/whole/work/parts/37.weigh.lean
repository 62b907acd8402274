def vV (T : aTn) (ac : Nat → Nat) (nn nf : Nat → Int) (y : Nat) (hd : Nat → Nat → Int) (b : Nat) : Int := rW T ac nn nf y hd (calm ac (nB T) (rW T ac nn nf y hd)) b
theorem rW_s {T : aTn} {ac : Nat → Nat} {nn nf : Nat → Int} {m : Nat} {hd : Nat → Nat → Int} {all b : Nat} : rW T ac nn nf (m + 1) hd all b = eE T ac nn nf hd all b + (if m = 0 then 0 else kp T * vV T ac nn nf m (nx T ac nn nf hd all) b / 100) := rfl
theorem zcp_c {h : zM} {a sp b dp n c i : Nat} (hc : ¬ c = b) : zcp h a sp b dp n c i = h c i := by
  unfold zcp
  rw [if_neg (fun q => hc q.1)]
theorem zcp_o {h : zM} {a sp b dp n c i : Nat} (hi : i < dp ∨ dp + n ≤ i) : zcp h a sp b dp n c i = h c i := by
  unfold zcp
  rw [if_neg (by omega)]
theorem zcp_i {h : zM} {a sp b dp n i : Nat} (hi : i < n) : zcp h a sp b dp n b (dp + i) = h a (sp + i) := by
  unfold zcp
  rw [if_pos ⟨rfl, by omega, by omega⟩]
  congr 1
  omega
theorem g75 {G : zG} (hg : gS G) {y : Nat} (hy : y < 4) : G.2.2.2 75 y = some (76 + y) ∧ G.2.1 (76 + y) = 10 ∧ G.2.2.1 (76 + y) = 12 := by
  have h1 : y = 0 ∨ y = 1 ∨ y = 2 ∨ y = 3 := by omega
  rcases h1 with rfl | rfl | rfl | rfl
  · exact ⟨gr75_0 hg, gk76 hg, gl76 hg⟩
  · exact ⟨gr75_1 hg, gk77 hg, gl77 hg⟩
  · exact ⟨gr75_2 hg, gk78 hg, gl78 hg⟩
  · exact ⟨gr75_3 hg, gk79 hg, gl79 hg⟩
theorem g80 {G : zG} (hg : gS G) {y : Nat} (hy : y < 4) : G.2.2.2 80 y = some (81 + y) ∧ G.2.1 (81 + y) = 11 ∧ G.2.2.1 (81 + y) = 3 := by
  have h1 : y = 0 ∨ y = 1 ∨ y = 2 ∨ y = 3 := by omega
  rcases h1 with rfl | rfl | rfl | rfl
  · exact ⟨gr80_0 hg, gk81 hg, gl81 hg⟩
  · exact ⟨gr80_1 hg, gk82 hg, gl82 hg⟩
  · exact ⟨gr80_2 hg, gk83 hg, gl83 hg⟩
  · exact ⟨gr80_3 hg, gk84 hg, gl84 hg⟩
/-- what a rest over y years may change -/
def sFr (N y : Nat) (h h' : zM) : Prop := ∀ c i, ¬ c = 59 → ¬ c = 60 → c < 64 ∨ 68 < c → ¬ (c = 46 ∧ i = 14) → ¬ (c = 73 ∧ i < y * N) → ¬ (c = 74 ∧ i < y * N) → c < 76 ∨ 76 + y ≤ c → c < 82 ∨ 81 + y < c → h' c i = h c i
def sPre (T : aTn) (ac : Nat → Nat) (nn nf : Nat → Int) (y : Nat) (hd : Nat → Nat → Int) (h : zM) : Prop := kT h 49 T ∧ tOk h T ac ∧ (∀ s b, s < nS T → b < 3 → h (76 + y) (b * 4 + s) = hd s b) ∧ (∀ s, s < nS T → h 62 s = nn s) ∧ (∀ s, s < nS T → h 63 s = nf s) ∧ (h 46 14 = 0 ∨ h 46 14 = 1)
def sPost (T : aTn) (ac : Nat → Nat) (nn nf : Nat → Int) (y : Nat) (hd : Nat → Nat → Int) (h h' : zM) : Prop := sFr (tg ac (nB T) * nB T) y h h' ∧ (∀ b, b < nB T → h' (81 + y) b = vV T ac nn nf y hd b) ∧ (h' 46 14 = 0 ∨ h' 46 14 = 1) ∧ (h' 46 14 = 1 ↔ h 46 14 = 1 ∨ rU T ac nn nf y hd)
def SP (G : zG) (T : aTn) (ac : Nat → Nat) (nn nf : Nat → Int) (d y : Nat) : Prop := ∀ (hd : Nat → Nat → Int) (B : Int) (h : zM) (Q : zQ), hB hd B → -100 ≤ B → B + 100 * y ≤ 2000000 → (nB T = 2 → ∀ s, hd s 2 = 0) → sPre T ac nn nf y hd h → (∀ h', sPost T ac nn nf y hd h h' → Q (some (zI ((calm ac (nB T) (rW T ac nn nf y hd) : Nat) : Int))) G h') → zRunD ztb zmt' (d + 2 * y + 2) 40 [zR (some 46), zI (y : Nat)] G h Q
/-- up to acts all -/
def sI (T : aTn) (ac : Nat → Nat) (nn nf : Nat → Int) (m : Nat) (hd : Nat → Nat → Int) (h h1 : zM) (all : Nat) : Prop := sFr (tg ac (nB T) * nB T) (m + 1) h h1 ∧ (∀ a b, a < all → b < nB T → h1 73 (m * (tg ac (nB T) * nB T) + a * nB T + b) = rW T ac nn nf (m + 1) hd a b) ∧ (¬ m = 0 → ∀ a b, a < all → b < nB T → h 72 a = (a : Int) → h1 74 (m * (tg ac (nB T) * nB T) + a * nB T + b) = vV T ac nn nf m (nx T ac nn nf hd a) b) ∧ (h1 46 14 = 0 ∨ h1 46 14 = 1) ∧ (h1 46 14 = 1 ↔ h 46 14 = 1 ∨ ¬ m = 0 ∧ ∃ a, a < all ∧ rU T ac nn nf m (nx T ac nn nf hd a))
theorem tOk_fr {h h' : zM} {T : aTn} {ac : Nat → Nat} (hO : tOk h T ac) (h1 : ∀ i, h' 69 i = h 69 i) (h2 : ∀ i, h' 70 i = h 70 i) (h3 : ∀ i, h' 71 i = h 71 i) (h4 : ∀ i, h' 72 i = h 72 i) (h5 : h' 46 5 = h 46 5) : tOk h' T ac := by
  unfold tOk sR at hO ⊢
  simp only [h1, h2, h3, h4, h5]
  exact hO
section WE
variable {d : Nat} {Q : zQ} {G : zG} {h h1 : zM} {T : aTn} {ac : Nat → Nat} {nn nf : Nat → Int} {hd : Nat → Nat → Int} {B : Int} {m all : Nat}
theorem c_weigh (hg : gS G) (hw : wT T) (hc : acOk T ac) (hf : fB nn nf) (hm : m < 3) (hN : (m + 1) * (tg ac (nB T) * nB T) ≤ 2187) (b1 : hB hd B) (b2 : -100 ≤ B) (b3 : B + 100 * (m + 1 : Nat) ≤ 2000000) (h20 : nB T = 2 → ∀ s, hd s 2 = 0) (hP : sPre T ac nn nf (m + 1) hd h) (SS : ¬ m = 0 → SP G T ac nn nf d m) (hall : all < tg ac (nB T)) (hI : sI T ac nn nf m hd h h1 all) (K : ∀ h', sI T ac nn nf m hd h h' (all + 1) → Q none G h') : zRunD ztb zmt' (d + 2 * m + 3) 41 [zR (some 46), zI all, zI ((m + 1 : Nat) : Int), zI ((m * (tg ac (nB T) * nB T) : Nat) : Int)] G h1 Q := by
  rw [r41]
  have hBk := hw.1
  have hSk := hw.2.1
  have tb := tg_b hw hc
  obtain ⟨pT, pO, pH, pN, pF, pU⟩ := hP
  obtain ⟨f0, f1, f2, f3, f4⟩ := hI
  have hok := aN_ok b1 hf (by omega)
  have ix := idx_b hall (show 0 < nB T by omega)
  have e5 : ((all : Nat) : Int) * (nB T : Int) = ((all * nB T : Nat) : Int) := (Int.natCast_mul _ _).symm
  have hN2 : m * (tg ac (nB T) * nB T) + tg ac (nB T) * nB T ≤ 2187 := by
    have : (m + 1) * (tg ac (nB T) * nB T) = m * (tg ac (nB T) * nB T) + tg ac (nB T) * nB T := Nat.succ_mul _ _
    omega
  have hsm : (m + 1) * (tg ac (nB T) * nB T) = m * (tg ac (nB T) * nB T) + tg ac (nB T) * nB T := Nat.succ_mul _ _
  have ixs : ∀ a b, a < tg ac (nB T) → b < nB T → a * nB T + b < tg ac (nB T) * nB T := fun a b q1 q2 => idx_b q1 q2
  have sep : ∀ a a' b b', b < nB T → b' < nB T → a * nB T + b = a' * nB T + b' → a = a' := by
    intro a a' b b' q1 q2 q3
    have z1 : (a * nB T + b) / nB T = a := by
      rw [Nat.mul_comm, Nat.mul_add_div (by omega), Nat.div_eq_of_lt q1, Nat.add_zero]
    have z2 : (a' * nB T + b') / nB T = a' := by
      rw [Nat.mul_comm, Nat.mul_add_div (by omega), Nat.div_eq_of_lt q2, Nat.add_zero]
    rw [← z1, ← z2, q3]
  have ixn : all * nB T + nB T ≤ tg ac (nB T) * nB T := by
    have := ixs all (nB T - 1) hall (by omega)
    omega
  have pT1 : kT h1 49 T := kT_frame pT (fun c i q1 q2 => f0 c i (by omega) (by omega) (by omega) (by omega) (by omega) (by omega) (by omega) (by omega))
  have pO1 : tOk h1 T ac := tOk_fr pO (fun i => f0 _ _ (by decide) (by decide) (by omega) (by omega) (by omega) (by omega) (by omega) (by omega)) (fun i => f0 _ _ (by decide) (by decide) (by omega) (by omega) (by omega) (by omega) (by omega) (by omega)) (fun i => f0 _ _ (by decide) (by decide) (by omega) (by omega) (by omega) (by omega) (by omega) (by omega)) (fun i => f0 _ _ (by decide) (by decide) (by omega) (by omega) (by omega) (by omega) (by omega) (by omega)) (f0 _ _ (by decide) (by decide) (by omega) (by omega) (by omega) (by omega) (by omega) (by omega))
  obtain ⟨t, t1, t2, t3, t4⟩ := pO.2.2.2 all hall
  have at_ : ∃ A, A = m * (tg ac (nB T) * nB T) + all * nB T := ⟨_, rfl⟩
  obtain ⟨A, hA⟩ := at_
  have sb : ∃ S, S = m * (tg ac (nB T) * nB T) := ⟨_, rfl⟩
  obtain ⟨S, hS⟩ := sb
  have tn : ∃ N, N = tg ac (nB T) * nB T := ⟨_, rfl⟩
  obtain ⟨N, hNN⟩ := tn
  rw [← hNN] at hN2 hsm ixs ixn f0 f1 f2 hS hA hN ⊢
  rw [← hS] at hN2 hsm f1 f2 hA ⊢
  have eT := pT1.1
  have hnxt : nx T ac nn nf hd t = nx T ac nn nf hd all := nx_alike hw h20 (fun s q => by rw [← pO.2.2.1 t s (by omega) q, ← pO.2.2.1 all s hall q]; exact t3 s q)
  -- the last loop
  have lastl : ∀ j b (h5 : zM), b + j = nB T → ¬ m = 0 → sFr N (m + 1) h h5 → (∀ a b, a < all → b < nB T → h5 73 (S + a * nB T + b) = rW T ac nn nf (m + 1) hd a b) → (∀ b', b' < b → h5 73 (A + b') = rW T ac nn nf (m + 1) hd all b') → (∀ b', b ≤ b' → b' < nB T → h5 73 (A + b') = eE T ac nn nf hd all b') → (∀ a b, a < all + 1 → b < nB T → h 72 a = (a : Int) → h5 74 (S + a * nB T + b) = vV T ac nn nf m (nx T ac nn nf hd a) b) → (h5 46 14 = 0 ∨ h5 46 14 = 1) → (h5 46 14 = 1 ↔ h 46 14 = 1 ∨ ¬ m = 0 ∧ ∃ a, a < all + 1 ∧ rU T ac nn nf m (nx T ac nn nf hd a)) → zE 41 (d + 2 * m + 2) Q 137 [some (zR (some 46)), some (zI all), some (zI ((m + 1 : Nat) : Int)), some (zI (S : Int)), some (zI (A : Int)), some (zI b)] [] G h5 (0, 0) := by
    intro j
    induction j with
    | zero =>
      intro b h5 hb hm0 g0 g1 g2 g3 g4 g5 g6
      have hb' : b = nB T := by omega
      subst hb'
      have e1 : h5 49 9 = (nB T : Int) := by rw [g0 _ _ (by decide) (by decide) (by omega) (by omega) (by omega) (by omega) (by omega) (by omega)]; exact pT.1
      rw [e41_137]
      simp only [e41_0, e41_1, e41_2, e41_3, e41_6, e41_9, e41_10, e41_11, e41_13, e41_14, e41_15, e41_18, e41_19, e41_22, e41_23, e41_26, e41_27, e41_28, e41_29, e41_30, e41_33, e41_34, e41_35, e41_36, e41_39, e41_40, e41_43, e41_46, e41_47, e41_48, e41_51, e41_53, e41_54, e41_57, e41_60, e41_63, e41_64, e41_65, e41_68, e41_69, e41_70, e41_73, e41_74, e41_75, e41_76, e41_79, e41_80, e41_83, e41_86, e41_87, e41_88, e41_91, e41_92, e41_93, e41_94, e41_95, e41_96, e41_98, e41_101, e41_102, e41_103, e41_104, e41_105, e41_108, e41_109, e41_110, e41_113, e41_114, e41_115, e41_116, e41_117, e41_118, e41_119, e41_122, e41_124, e41_125, e41_128, e41_131, e41_134, e41_135, e41_139, e41_140, e41_143, e41_146, e41_149, e41_150, e41_153, e41_155, e41_157, e41_158, e41_159, e41_160, e41_161, e41_164, e41_167, e41_168, e41_169, e41_172, e41_173, e41_174, e41_177, e41_178, e41_179, e41_180, e41_183, e41_186, e41_187, e41_188, e41_190, e41_191, e41_192, e41_193, e41_196, e41_199, e41_200, e41_201, e41_204, e41_207, zs0, zsI, zsL, zsR, ztl1, ztl0, zc0, zcI, zcL, zcR, true_and, and_true, true_implies, false_implies, implies_true, not_true_eq_false, not_false_eq_true, and_self, Int.toNat_natCast, Nat.reduceAdd, Nat.reduceLeDiff, Nat.reduceLT, forall_eq', Option.some.injEq, zarR, zarI, zarL, zle, zq0, zq1, zq2, zq3, zq4, zq5, zq6, zq8, zq9, zq10, zq20, zq7, zq12, zq24, zq40, zq41, zq48, zq100, zq120, zq123, zq480, zq492, zq700, zq729, zq2187, zq2916, zq8748, ne_eq, Int.reduceEq, Int.reduceLT, Int.reduceLE, Int.reduceToNat, Int.reduceMul, Int.reduceAdd, Int.reduceNeg, gk46 hg, gr46_0 hg, gr46_1 hg, gr46_2 hg, gr46_3 hg, gr46_4 hg, gr46_6 hg, gr46_7 hg, gr46_8 hg, gr46_9 hg, gr46_10 hg, gr46_11 hg, gr46_12 hg, gr46_13 hg, gk49 hg, gr49_0 hg, gr49_1 hg, gr49_2 hg, gr49_3 hg, gr49_4 hg, gr49_5 hg, gr49_6 hg, gr49_7 hg, gr49_8 hg, e1, Int.le_refl]
      apply K
      refine ⟨by rw [← hNN]; exact g0, ?_, ?_, g5, g6⟩
      · intro a b q1 q2
        rw [← hNN, ← hS]
        by_cases q3 : a = all
        · subst q3
          rw [← hA]
          exact g2 b q2
        · exact g1 a b (by omega) q2
      · intro _ a b q1 q2 q3
        rw [← hNN, ← hS]
        exact g4 a b q1 q2 q3
    | succ j ih =>
      intro b h5 hb hm0 g0 g1 g2 g3 g4 g5 g6
      have hbB : b < nB T := by omega
      have e1 : h5 49 9 = (nB T : Int) := by rw [g0 _ _ (by decide) (by decide) (by omega) (by omega) (by omega) (by omega) (by omega) (by omega)]; exact pT.1
      have e2 : h5 49 13 = kp T := by rw [g0 _ _ (by decide) (by decide) (by omega) (by omega) (by omega) (by omega) (by omega) (by omega)]; exact pT.2.2.2.2.1
      have e3 : h5 72 all = (t : Int) := by rw [g0 _ _ (by decide) (by decide) (by omega) (by omega) (by omega) (by omega) (by omega) (by omega)]; exact t1
      have c : ¬ (nB T : Int) ≤ b := by omega
      have hx := ixs all b hall hbB
      have hy := ixs t b (by omega) hbB
      have w1 : ((A + b : Nat) : Int) < 2187 := by omega
      have w2 : ((S + t * nB T + b : Nat) : Int) < 2187 := by omega
      have w3 : (all : Int) < 729 := by omega
      have m1 : ((t : Nat) : Int) * (nB T : Int) = ((t * nB T : Nat) : Int) := (Int.natCast_mul _ _).symm
      have v1 := g3 b (Nat.le_refl b) hbB
      have v2 := g4 t b (by omega) hbB t4
      rw [hnxt] at v2
      have bb := nx_b hw (ac := ac) b1 hf (by omega) b2 all
      have r1 := rW_b hw (ac := ac) hf m bb (by omega) (by omega) (calm ac (nB T) (rW T ac nn nf m (nx T ac nn nf hd all))) b
      have r2 : -(1592000000 * (m : Int)) ≤ vV T ac nn nf m (nx T ac nn nf hd all) b ∧ vV T ac nn nf m (nx T ac nn nf hd all) b ≤ 1592000000 * m := r1
      have r3 := mulb (n := kp T) (p := vV T ac nn nf m (nx T ac nn nf hd all) b) (N := 100) (lo := -5000000000) (hi := 5000000000) hw.2.2.2.2.1.1 hw.2.2.2.2.1.2 (by omega) (by omega) (by decide) (by decide)
      have r4 := aEarS_t (to := aTo T (aOwn T ac all) (aOth T ac all)) hw hok (aOwn_b hw ac all) (aOth_b hw ac all) b (nS T)
      have r5 : -(398000000 * (nS T : Int)) ≤ eE T ac nn nf hd all b ∧ eE T ac nn nf hd all b ≤ 398000000 * (nS T : Int) := r4
      have fd : ∀ Q' : zQ, zRunD ztb zmt' (d + 2 * m + 2) 214 [zL (kp T * vV T ac nn nf m (nx T ac nn nf hd all) b), zL 100] G h5 Q' ↔ Q' (some (zL (kp T * vV T ac nn nf m (nx T ac nn nf hd all) b / 100))) G h5 := fun Q' => s_fdiv (d := d + 2 * m + 1) (by omega)
      have rs := rW_s (T := T) (ac := ac) (nn := nn) (nf := nf) (m := m) (hd := hd) (all := all) (b := b)
      rw [if_neg hm0] at rs
      have wx := wl_id (z := eE T ac nn nf hd all b + kp T * vV T ac nn nf m (nx T ac nn nf hd all) b / 100) (by omega)
      have wy := wl_id (z := kp T * vV T ac nn nf m (nx T ac nn nf hd all) b) (by omega)
      rw [← rs] at wx
      have ihh := fun h6 => ih (b + 1) h6 (by omega) hm0
      clear r1 r2 r3 r4 r5 bb
      generalize t * nB T = TN at *
      rw [e41_137]
      simp only [e41_0, e41_1, e41_2, e41_3, e41_6, e41_9, e41_10, e41_11, e41_13, e41_14, e41_15, e41_18, e41_19, e41_22, e41_23, e41_26, e41_27, e41_28, e41_29, e41_30, e41_33, e41_34, e41_35, e41_36, e41_39, e41_40, e41_43, e41_46, e41_47, e41_48, e41_51, e41_53, e41_54, e41_57, e41_60, e41_63, e41_64, e41_65, e41_68, e41_69, e41_70, e41_73, e41_74, e41_75, e41_76, e41_79, e41_80, e41_83, e41_86, e41_87, e41_88, e41_91, e41_92, e41_93, e41_94, e41_95, e41_96, e41_98, e41_101, e41_102, e41_103, e41_104, e41_105, e41_108, e41_109, e41_110, e41_113, e41_114, e41_115, e41_116, e41_117, e41_118, e41_119, e41_122, e41_124, e41_125, e41_128, e41_131, e41_134, e41_135, e41_139, e41_140, e41_143, e41_146, e41_149, e41_150, e41_153, e41_155, e41_157, e41_158, e41_159, e41_160, e41_161, e41_164, e41_167, e41_168, e41_169, e41_172, e41_173, e41_174, e41_177, e41_178, e41_179, e41_180, e41_183, e41_186, e41_187, e41_188, e41_190, e41_191, e41_192, e41_193, e41_196, e41_199, e41_200, e41_201, e41_204, e41_207, zs0, zsI, zsL, zsR, ztl1, ztl0, zc0, zcI, zcL, zcR, true_and, and_true, true_implies, false_implies, implies_true, not_true_eq_false, not_false_eq_true, and_self, Int.toNat_natCast, Nat.reduceAdd, Nat.reduceLeDiff, Nat.reduceLT, forall_eq', Option.some.injEq, zarR, zarI, zarL, zle, zq0, zq1, zq2, zq3, zq4, zq5, zq6, zq8, zq9, zq10, zq20, zq7, zq12, zq24, zq40, zq41, zq48, zq100, zq120, zq123, zq480, zq492, zq700, zq729, zq2187, zq2916, zq8748, ne_eq, Int.reduceEq, Int.reduceLT, Int.reduceLE, Int.reduceToNat, Int.reduceMul, Int.reduceAdd, Int.reduceNeg, gk46 hg, gr46_0 hg, gr46_1 hg, gr46_2 hg, gr46_3 hg, gr46_4 hg, gr46_6 hg, gr46_7 hg, gr46_8 hg, gr46_9 hg, gr46_10 hg, gr46_11 hg, gr46_12 hg, gr46_13 hg, gk49 hg, gr49_0 hg, gr49_1 hg, gr49_2 hg, gr49_3 hg, gr49_4 hg, gr49_5 hg, gr49_6 hg, gr49_7 hg, gr49_8 hg, gk72 hg, gl72 hg, gk73 hg, gl73 hg, gk74 hg, gl74 hg, e1, e2, e3, c, w3, wrN (z := (A : Int) + (b : Int)) (m := A + b) (by omega) (by omega), w1, m1, wrN (z := (TN : Int)) (m := TN) rfl (by omega), wrN (z := (S : Int) + (TN : Int)) (m := S + TN) (by omega) (by omega), wrN (z := ((S + TN : Nat) : Int) + (b : Int)) (m := S + TN + b) (by omega) (by omega), w2, v1, v2, wy, fd, ← rs, wx, wr_s (show b < 2147483647 by omega)]
      clear wx wy
      apply ihh
      · intro c i q1 q2 q3 q4 q5 q6 q7 q8
        unfold zu
        rw [if_neg (by omega)]
        exact g0 c i q1 q2 q3 q4 q5 q6 q7 q8
      · intro a b' q1 q2
        have := sep a all b' b q2 hbB
        rw [zu_i (by omega)]
        exact g1 a b' q1 q2
      · intro b' q1
        by_cases q2 : b' = b
        · subst q2
          exact zu_at
        · rw [zu_i (by omega)]
          exact g2 b' (by omega)
      · intro b' q1 q2
        rw [zu_i (by omega)]
        exact g3 b' (by omega) q2
      · intro a b' q1 q2 q3
        rw [zu_c (by decide)]
        exact g4 a b' q1 q2 q3
      · rw [zu_c (by decide)]
        exact g5
      · rw [zu_c (by decide)]
        exact g6
  have hg75 := g75 hg (show m + 1 < 4 by omega)
  have c1 : ((m + 1 : Nat) : Int) < 4 := by omega
  have c1' : ((m + 1 : Nat) : Int) = ((m + 1 : Nat) : Int) := rfl
  generalize hPR : all * nB T = PR at *
  simp only [e41_0, e41_1, e41_2, e41_3, e41_6, e41_9, e41_10, e41_11, e41_13, e41_14, e41_15, e41_18, e41_19, e41_22, e41_23, e41_26, e41_27, e41_28, e41_29, e41_30, e41_33, e41_34, e41_35, e41_36, e41_39, e41_40, e41_43, e41_46, e41_47, e41_48, e41_51, e41_53, e41_54, e41_57, e41_60, e41_63, e41_64, e41_65, e41_68, e41_69, e41_70, e41_73, e41_74, e41_75, e41_76, e41_79, e41_80, e41_83, e41_86, e41_87, e41_88, e41_91, e41_92, e41_93, e41_94, e41_95, e41_96, e41_98, e41_101, e41_102, e41_103, e41_104, e41_105, e41_108, e41_109, e41_110, e41_113, e41_114, e41_115, e41_116, e41_117, e41_118, e41_119, e41_122, e41_124, e41_125, e41_128, e41_131, e41_134, e41_135, e41_139, e41_140, e41_143, e41_146, e41_149, e41_150, e41_153, e41_155, e41_157, e41_158, e41_159, e41_160, e41_161, e41_164, e41_167, e41_168, e41_169, e41_172, e41_173, e41_174, e41_177, e41_178, e41_179, e41_180, e41_183, e41_186, e41_187, e41_188, e41_190, e41_191, e41_192, e41_193, e41_196, e41_199, e41_200, e41_201, e41_204, e41_207, zs0, zsI, zsL, zsR, ztl1, ztl0, zc0, zcI, zcL, zcR, true_and, and_true, true_implies, false_implies, implies_true, not_true_eq_false, not_false_eq_true, and_self, Int.toNat_natCast, Nat.reduceAdd, Nat.reduceLeDiff, Nat.reduceLT, forall_eq', Option.some.injEq, zarR, zarI, zarL, zle, zq0, zq1, zq2, zq3, zq4, zq5, zq6, zq8, zq9, zq10, zq20, zq7, zq12, zq24, zq40, zq41, zq48, zq100, zq120, zq123, zq480, zq492, zq700, zq729, zq2187, zq2916, zq8748, ne_eq, Int.reduceEq, Int.reduceLT, Int.reduceLE, Int.reduceToNat, Int.reduceMul, Int.reduceAdd, Int.reduceNeg, gk46 hg, gr46_0 hg, gr46_1 hg, gr46_2 hg, gr46_3 hg, gr46_4 hg, gr46_6 hg, gr46_7 hg, gr46_8 hg, gr46_9 hg, gr46_10 hg, gr46_11 hg, gr46_12 hg, gr46_13 hg, gk49 hg, gr49_0 hg, gr49_1 hg, gr49_2 hg, gr49_3 hg, gr49_4 hg, gr49_5 hg, gr49_6 hg, gr49_7 hg, gr49_8 hg, eT, e5, wrN (z := (PR : Int)) (m := PR) rfl (by omega), wrN (z := (S : Int) + (PR : Int)) (m := A) (by omega) (by omega)]
  apply c_askAll (d := d + 2 * m) hg pT1 hw hc pO1.1 (by omega)
  intro h2 m0 m1 m2
  have pT2 : kT h2 49 T := kT_frame pT1 (fun c i q1 q2 => m0 c i (by omega) (by omega))
  simp only [e41_0, e41_1, e41_2, e41_3, e41_6, e41_9, e41_10, e41_11, e41_13, e41_14, e41_15, e41_18, e41_19, e41_22, e41_23, e41_26, e41_27, e41_28, e41_29, e41_30, e41_33, e41_34, e41_35, e41_36, e41_39, e41_40, e41_43, e41_46, e41_47, e41_48, e41_51, e41_53, e41_54, e41_57, e41_60, e41_63, e41_64, e41_65, e41_68, e41_69, e41_70, e41_73, e41_74, e41_75, e41_76, e41_79, e41_80, e41_83, e41_86, e41_87, e41_88, e41_91, e41_92, e41_93, e41_94, e41_95, e41_96, e41_98, e41_101, e41_102, e41_103, e41_104, e41_105, e41_108, e41_109, e41_110, e41_113, e41_114, e41_115, e41_116, e41_117, e41_118, e41_119, e41_122, e41_124, e41_125, e41_128, e41_131, e41_134, e41_135, e41_139, e41_140, e41_143, e41_146, e41_149, e41_150, e41_153, e41_155, e41_157, e41_158, e41_159, e41_160, e41_161, e41_164, e41_167, e41_168, e41_169, e41_172, e41_173, e41_174, e41_177, e41_178, e41_179, e41_180, e41_183, e41_186, e41_187, e41_188, e41_190, e41_191, e41_192, e41_193, e41_196, e41_199, e41_200, e41_201, e41_204, e41_207, zs0, zsI, zsL, zsR, ztl1, ztl0, zc0, zcI, zcL, zcR, true_and, and_true, true_implies, false_implies, implies_true, not_true_eq_false, not_false_eq_true, and_self, Int.toNat_natCast, Nat.reduceAdd, Nat.reduceLeDiff, Nat.reduceLT, forall_eq', Option.some.injEq, zarR, zarI, zarL, zle, zq0, zq1, zq2, zq3, zq4, zq5, zq6, zq8, zq9, zq10, zq20, zq7, zq12, zq24, zq40, zq41, zq48, zq100, zq120, zq123, zq480, zq492, zq700, zq729, zq2187, zq2916, zq8748, ne_eq, Int.reduceEq, Int.reduceLT, Int.reduceLE, Int.reduceToNat, Int.reduceMul, Int.reduceAdd, Int.reduceNeg, gk46 hg, gr46_0 hg, gr46_1 hg, gr46_2 hg, gr46_3 hg, gr46_4 hg, gr46_6 hg, gr46_7 hg, gr46_8 hg, gr46_9 hg, gr46_10 hg, gr46_11 hg, gr46_12 hg, gr46_13 hg, gk47 hg, gr47_0 hg, gr47_1 hg, gr47_2 hg, gr47_3 hg, gr47_4 hg, gr47_5 hg, gr47_6 hg, gr47_7 hg, gr47_8 hg, gk75 hg, gl75 hg, gr75_0 hg, gr75_1 hg, gr75_2 hg, gr75_3 hg, c1, hg75, wrN (z := (all : Int) * 4) (m := all * 4) (by omega) (by omega)]
  refine c_pass47 (d := d + 2 * m) (own := aOwn T ac all) (oth := aOth T ac all) (rh := 76 + (m + 1)) (ha := 0) (rc := 71) (ca := all * 4) (n := aN hd nn nf) (to := aTo T (aOwn T ac all) (aOth T ac all)) hg pT2 hw m1 m2 (aOwn_b hw ac all) (aOth_b hw ac all) hok hg75.2.1 (by rw [hg75.2.2]; decide) (by decide) (by omega) (gk71 hg) (by rw [gl71 hg]; omega) (by omega) (by decide) ?_ ?_ ?_ ?_ ?_ ?_
  · intro s k q1 q2
    rw [Nat.zero_add, m0 _ _ (by omega) (by omega), f0 _ _ (by omega) (by omega) (by omega) (by omega) (by omega) (by omega) (by omega) (by omega), pH s k q1 q2]
    unfold aN
    rw [if_pos q2]
  · intro s q1
    rw [m0 _ _ (by omega) (by omega), f0 _ _ (by omega) (by omega) (by omega) (by omega) (by omega) (by omega) (by omega) (by omega), pN s q1]
    rfl
  · intro s q1
    rw [m0 _ _ (by omega) (by omega), f0 _ _ (by omega) (by omega) (by omega) (by omega) (by omega) (by omega) (by omega) (by omega), pF s q1]
    rfl
  · intro s k q1 q2 q3
    rw [m0 _ _ (by omega) (by omega), pO1.2.2.1 all s hall q1]
    apply aPk_to hw
    by_cases k2 : k = 2 ∧ nB T = 2
    · exfalso
      have z : aN hd nn nf s k = 0 := by
        rw [k2.1]
        exact h20 k2.2 s
      omega
    · omega
  · intro s k q1 q2 q3
    have z1 := aCh_b hw (own := aOwn T ac all) (oth := aOth T ac all) (s := s) (far := tr T 7 s) (f := k)
    have z2 := aCh_b hw (own := aOwn T ac all) (oth := aOth T ac all) (s := s) (far := 0) (f := 3) (Or.inl rfl)
    have z3 := aCh_b hw (own := aOwn T ac all) (oth := aOth T ac all) (s := s) (far := 1) (f := 3) (Or.inl rfl)
    unfold aTo
    by_cases k3 : k < 3
    · rw [if_pos k3]
      by_cases k2 : k = 2 ∧ nB T = 2
      · exfalso
        have z : aN hd nn nf s k = 0 := by
          rw [k2.1]
          exact h20 k2.2 s
        omega
      · have := z1 (Or.inr (by omega))
        omega
    · rw [if_neg k3]
      split <;> omega
  · intro h3 n0 n1 n2 n3 n4
    have eT3 : h3 49 9 = (nB T : Int) := by rw [n0 _ _ (by omega), m0 _ _ (by omega) (by omega)]; exact pT1.1
    have w5 : (0 : Int) + (nB T : Int) ≤ 3 := by omega
    have w6 : (A : Int) + (nB T : Int) ≤ 2187 := by omega
    -- all that is known of the heap now
    have F4 : sFr N (m + 1) h (zcp h3 65 0 73 A (nB T)) := by
      intro c i q1 q2 q3 q4 q5 q6 q7 q8
      have q9 : ¬ c = 73 ∨ (i < A ∨ A + nB T ≤ i) := by omega
      have e : zcp h3 65 0 73 A (nB T) c i = h3 c i := by
        rcases q9 with q9 | q9
        · exact zcp_c q9
        · exact zcp_o q9
      rw [e, n0 c i (by omega), m0 c i q1 q2]
      exact f0 c i q1 q2 q3 q4 q5 q6 q7 q8
    have R4 : ∀ a b, a < all → b < nB T → zcp h3 65 0 73 A (nB T) 73 (S + a * nB T + b) = rW T ac nn nf (m + 1) hd a b := by
      intro a b q1 q2
      have s1 := idx_b q1 q2
      rw [zcp_o (by omega), n0 _ _ (by omega), m0 _ _ (by omega) (by omega)]
      exact f1 a b q1 q2
    have E4 : ∀ b, b < nB T → zcp h3 65 0 73 A (nB T) 73 (A + b) = eE T ac nn nf hd all b := by
      intro b q
      rw [zcp_i q, Nat.zero_add]
      exact n3 b (by omega)
    have L4 : ∀ i, zcp h3 65 0 73 A (nB T) 74 i = h1 74 i := fun i => by rw [zcp_c (by decide), n0 _ _ (by omega), m0 _ _ (by omega) (by omega)]
    have U4 : zcp h3 65 0 73 A (nB T) 46 14 = h1 46 14 := by rw [zcp_c (by decide), n0 _ _ (by omega), m0 _ _ (by omega) (by omega)]
    have X4 : ∀ b s, b < 3 → s < nS T → zcp h3 65 0 73 A (nB T) 68 (b * 4 + s) = nx T ac nn nf hd all s b := by
      intro b s q1 q2
      rw [zcp_c (by decide), n4 b s q1 q2]
      unfold nx
      rw [if_pos q2]
    have T4 : zcp h3 65 0 73 A (nB T) 72 all = (t : Int) := by rw [zcp_c (by decide), n0 _ _ (by omega), m0 _ _ (by omega) (by omega), f0 _ _ (by decide) (by decide) (by omega) (by omega) (by omega) (by omega) (by omega) (by omega)]; exact t1
    have B4 : zcp h3 65 0 73 A (nB T) 49 9 = (nB T : Int) := by rw [zcp_c (by decide)]; exact eT3
    simp only [e41_0, e41_1, e41_2, e41_3, e41_6, e41_9, e41_10, e41_11, e41_13, e41_14, e41_15, e41_18, e41_19, e41_22, e41_23, e41_26, e41_27, e41_28, e41_29, e41_30, e41_33, e41_34, e41_35, e41_36, e41_39, e41_40, e41_43, e41_46, e41_47, e41_48, e41_51, e41_53, e41_54, e41_57, e41_60, e41_63, e41_64, e41_65, e41_68, e41_69, e41_70, e41_73, e41_74, e41_75, e41_76, e41_79, e41_80, e41_83, e41_86, e41_87, e41_88, e41_91, e41_92, e41_93, e41_94, e41_95, e41_96, e41_98, e41_101, e41_102, e41_103, e41_104, e41_105, e41_108, e41_109, e41_110, e41_113, e41_114, e41_115, e41_116, e41_117, e41_118, e41_119, e41_122, e41_124, e41_125, e41_128, e41_131, e41_134, e41_135, e41_139, e41_140, e41_143, e41_146, e41_149, e41_150, e41_153, e41_155, e41_157, e41_158, e41_159, e41_160, e41_161, e41_164, e41_167, e41_168, e41_169, e41_172, e41_173, e41_174, e41_177, e41_178, e41_179, e41_180, e41_183, e41_186, e41_187, e41_188, e41_190, e41_191, e41_192, e41_193, e41_196, e41_199, e41_200, e41_201, e41_204, e41_207, zs0, zsI, zsL, zsR, ztl1, ztl0, zc0, zcI, zcL, zcR, true_and, and_true, true_implies, false_implies, implies_true, not_true_eq_false, not_false_eq_true, and_self, Int.toNat_natCast, Nat.reduceAdd, Nat.reduceLeDiff, Nat.reduceLT, forall_eq', Option.some.injEq, zarR, zarI, zarL, zle, zq0, zq1, zq2, zq3, zq4, zq5, zq6, zq8, zq9, zq10, zq20, zq7, zq12, zq24, zq40, zq41, zq48, zq100, zq120, zq123, zq480, zq492, zq700, zq729, zq2187, zq2916, zq8748, ne_eq, Int.reduceEq, Int.reduceLT, Int.reduceLE, Int.reduceToNat, Int.reduceMul, Int.reduceAdd, Int.reduceNeg, gk46 hg, gr46_0 hg, gr46_1 hg, gr46_2 hg, gr46_3 hg, gr46_4 hg, gr46_6 hg, gr46_7 hg, gr46_8 hg, gr46_9 hg, gr46_10 hg, gr46_11 hg, gr46_12 hg, gr46_13 hg, gk47 hg, gr47_0 hg, gr47_1 hg, gr47_2 hg, gr47_3 hg, gr47_4 hg, gr47_5 hg, gr47_6 hg, gr47_7 hg, gr47_8 hg, gk49 hg, gr49_0 hg, gr49_1 hg, gr49_2 hg, gr49_3 hg, gr49_4 hg, gr49_5 hg, gr49_6 hg, gr49_7 hg, gr49_8 hg, gk65 hg, gl65 hg, gk73 hg, gl73 hg, eT3, w5, w6]
    generalize zcp h3 65 0 73 A (nB T) = h4 at *
    by_cases hm0 : m = 0
    · have c2 : ((m + 1 : Nat) : Int) = 1 := by omega
      simp only [e41_0, e41_1, e41_2, e41_3, e41_6, e41_9, e41_10, e41_11, e41_13, e41_14, e41_15, e41_18, e41_19, e41_22, e41_23, e41_26, e41_27, e41_28, e41_29, e41_30, e41_33, e41_34, e41_35, e41_36, e41_39, e41_40, e41_43, e41_46, e41_47, e41_48, e41_51, e41_53, e41_54, e41_57, e41_60, e41_63, e41_64, e41_65, e41_68, e41_69, e41_70, e41_73, e41_74, e41_75, e41_76, e41_79, e41_80, e41_83, e41_86, e41_87, e41_88, e41_91, e41_92, e41_93, e41_94, e41_95, e41_96, e41_98, e41_101, e41_102, e41_103, e41_104, e41_105, e41_108, e41_109, e41_110, e41_113, e41_114, e41_115, e41_116, e41_117, e41_118, e41_119, e41_122, e41_124, e41_125, e41_128, e41_131, e41_134, e41_135, e41_139, e41_140, e41_143, e41_146, e41_149, e41_150, e41_153, e41_155, e41_157, e41_158, e41_159, e41_160, e41_161, e41_164, e41_167, e41_168, e41_169, e41_172, e41_173, e41_174, e41_177, e41_178, e41_179, e41_180, e41_183, e41_186, e41_187, e41_188, e41_190, e41_191, e41_192, e41_193, e41_196, e41_199, e41_200, e41_201, e41_204, e41_207, zs0, zsI, zsL, zsR, ztl1, ztl0, zc0, zcI, zcL, zcR, true_and, and_true, true_implies, false_implies, implies_true, not_true_eq_false, not_false_eq_true, and_self, Int.toNat_natCast, Nat.reduceAdd, Nat.reduceLeDiff, Nat.reduceLT, forall_eq', Option.some.injEq, zarR, zarI, zarL, zle, zq0, zq1, zq2, zq3, zq4, zq5, zq6, zq8, zq9, zq10, zq20, zq7, zq12, zq24, zq40, zq41, zq48, zq100, zq120, zq123, zq480, zq492, zq700, zq729, zq2187, zq2916, zq8748, ne_eq, Int.reduceEq, Int.reduceLT, Int.reduceLE, Int.reduceToNat, Int.reduceMul, Int.reduceAdd, Int.reduceNeg, c2]
      apply K
      refine ⟨by rw [← hNN]; exact F4, ?_, fun q => absurd hm0 q, by rw [U4]; exact f3, ?_⟩
      · intro a b q1 q2
        rw [← hNN, ← hS]
        by_cases q3 : a = all
        · subst q3
          rw [hPR, ← hA, E4 b q2, rW_s, if_pos hm0, Int.add_zero]
        · exact R4 a b (by omega) q2
      · rw [U4, f4]
        constructor
        · rintro (q | q)
          · exact Or.inl q
          · exact absurd hm0 q.1
        · rintro (q | q)
          · exact Or.inl q
          · exact absurd hm0 q.1
    · have c2 : ¬ ((m + 1 : Nat) : Int) = 1 := by omega
      have w7 : (all : Int) < 729 := by omega
      have wm : ((m + 1 : Nat) : Int) - 1 = (m : Int) := by omega
      by_cases ht : t = all
      · have c3 : (t : Int) = (all : Int) := by omega
        have hg75m := g75 hg (show m < 4 by omega)
        have hg80m := g80 hg (show m < 4 by omega)
        have m4 : (m : Int) < 4 := by omega
        have B5 : zcp h4 68 0 (76 + m) 0 12 49 9 = (nB T : Int) := by rw [zcp_c (by omega)]; exact B4
        simp only [e41_0, e41_1, e41_2, e41_3, e41_6, e41_9, e41_10, e41_11, e41_13, e41_14, e41_15, e41_18, e41_19, e41_22, e41_23, e41_26, e41_27, e41_28, e41_29, e41_30, e41_33, e41_34, e41_35, e41_36, e41_39, e41_40, e41_43, e41_46, e41_47, e41_48, e41_51, e41_53, e41_54, e41_57, e41_60, e41_63, e41_64, e41_65, e41_68, e41_69, e41_70, e41_73, e41_74, e41_75, e41_76, e41_79, e41_80, e41_83, e41_86, e41_87, e41_88, e41_91, e41_92, e41_93, e41_94, e41_95, e41_96, e41_98, e41_101, e41_102, e41_103, e41_104, e41_105, e41_108, e41_109, e41_110, e41_113, e41_114, e41_115, e41_116, e41_117, e41_118, e41_119, e41_122, e41_124, e41_125, e41_128, e41_131, e41_134, e41_135, e41_139, e41_140, e41_143, e41_146, e41_149, e41_150, e41_153, e41_155, e41_157, e41_158, e41_159, e41_160, e41_161, e41_164, e41_167, e41_168, e41_169, e41_172, e41_173, e41_174, e41_177, e41_178, e41_179, e41_180, e41_183, e41_186, e41_187, e41_188, e41_190, e41_191, e41_192, e41_193, e41_196, e41_199, e41_200, e41_201, e41_204, e41_207, zs0, zsI, zsL, zsR, ztl1, ztl0, zc0, zcI, zcL, zcR, true_and, and_true, true_implies, false_implies, implies_true, not_true_eq_false, not_false_eq_true, and_self, Int.toNat_natCast, Nat.reduceAdd, Nat.reduceLeDiff, Nat.reduceLT, forall_eq', Option.some.injEq, zarR, zarI, zarL, zle, zq0, zq1, zq2, zq3, zq4, zq5, zq6, zq8, zq9, zq10, zq20, zq7, zq12, zq24, zq40, zq41, zq48, zq100, zq120, zq123, zq480, zq492, zq700, zq729, zq2187, zq2916, zq8748, ne_eq, Int.reduceEq, Int.reduceLT, Int.reduceLE, Int.reduceToNat, Int.reduceMul, Int.reduceAdd, Int.reduceNeg, gk46 hg, gr46_0 hg, gr46_1 hg, gr46_2 hg, gr46_3 hg, gr46_4 hg, gr46_6 hg, gr46_7 hg, gr46_8 hg, gr46_9 hg, gr46_10 hg, gr46_11 hg, gr46_12 hg, gr46_13 hg, gk47 hg, gr47_0 hg, gr47_1 hg, gr47_2 hg, gr47_3 hg, gr47_4 hg, gr47_5 hg, gr47_6 hg, gr47_7 hg, gr47_8 hg, gk68 hg, gl68 hg, gk72 hg, gl72 hg, gk75 hg, gl75 hg, gr75_0 hg, gr75_1 hg, gr75_2 hg, gr75_3 hg, c2, w7, T4, c3, wm, wr_id (z := (m : Int)) (by omega), m4, hg75m, Int.add_zero, Int.le_refl]
        have ss := SS hm0 (nx T ac nn nf hd all) (B + 100) (zcp h4 68 0 (76 + m) 0 12)
        apply ss
        · exact nx_b hw b1 hf (by omega) b2 all
        · omega
        · omega
        · intro q s
          exact nx_0 hw q (h20 q) all s
        · refine ⟨?_, ?_, ?_, ?_, ?_, ?_⟩
          · exact kT_frame pT (fun c i q1 q2 => by rw [zcp_c (by omega)]; exact F4 c i (by omega) (by omega) (by omega) (by omega) (by omega) (by omega) (by omega) (by omega))
          · exact tOk_fr pO (fun i => by rw [zcp_c (by omega)]; exact F4 _ _ (by decide) (by decide) (by omega) (by omega) (by omega) (by omega) (by omega) (by omega)) (fun i => by rw [zcp_c (by omega)]; exact F4 _ _ (by decide) (by decide) (by omega) (by omega) (by omega) (by omega) (by omega) (by omega)) (fun i => by rw [zcp_c (by omega)]; exact F4 _ _ (by decide) (by decide) (by omega) (by omega) (by omega) (by omega) (by omega) (by omega)) (fun i => by rw [zcp_c (by omega)]; exact F4 _ _ (by decide) (by decide) (by omega) (by omega) (by omega) (by omega) (by omega) (by omega)) (by rw [zcp_c (by omega)]; exact F4 _ _ (by decide) (by decide) (by omega) (by omega) (by omega) (by omega) (by omega) (by omega))
          · intro s b q1 q2
            have := zcp_i (h := h4) (a := 68) (sp := 0) (b := 76 + m) (dp := 0) (n := 12) (i := b * 4 + s) (by omega)
            rw [Nat.zero_add] at this
            rw [this]
            exact X4 b s q2 q1
          · intro s q
            rw [zcp_c (by omega), F4 _ _ (by decide) (by decide) (by omega) (by omega) (by omega) (by omega) (by omega) (by omega)]
            exact pN s q
          · intro s q
            rw [zcp_c (by omega), F4 _ _ (by decide) (by decide) (by omega) (by omega) (by omega) (by omega) (by omega) (by omega)]
            exact pF s q
          · rw [zcp_c (by omega), U4]
            exact f3
        · intro h5 hpost
          obtain ⟨p0, p1, p2, p3⟩ := hpost
          rw [← hNN] at p0
          have mN : m * N = S := hS.symm
          have B6 : h5 49 9 = (nB T : Int) := by rw [p0 _ _ (by decide) (by decide) (by omega) (by omega) (by omega) (by omega) (by omega) (by omega)]; exact B5
          simp only [e41_0, e41_1, e41_2, e41_3, e41_6, e41_9, e41_10, e41_11, e41_13, e41_14, e41_15, e41_18, e41_19, e41_22, e41_23, e41_26, e41_27, e41_28, e41_29, e41_30, e41_33, e41_34, e41_35, e41_36, e41_39, e41_40, e41_43, e41_46, e41_47, e41_48, e41_51, e41_53, e41_54, e41_57, e41_60, e41_63, e41_64, e41_65, e41_68, e41_69, e41_70, e41_73, e41_74, e41_75, e41_76, e41_79, e41_80, e41_83, e41_86, e41_87, e41_88, e41_91, e41_92, e41_93, e41_94, e41_95, e41_96, e41_98, e41_101, e41_102, e41_103, e41_104, e41_105, e41_108, e41_109, e41_110, e41_113, e41_114, e41_115, e41_116, e41_117, e41_118, e41_119, e41_122, e41_124, e41_125, e41_128, e41_131, e41_134, e41_135, e41_139, e41_140, e41_143, e41_146, e41_149, e41_150, e41_153, e41_155, e41_157, e41_158, e41_159, e41_160, e41_161, e41_164, e41_167, e41_168, e41_169, e41_172, e41_173, e41_174, e41_177, e41_178, e41_179, e41_180, e41_183, e41_186, e41_187, e41_188, e41_190, e41_191, e41_192, e41_193, e41_196, e41_199, e41_200, e41_201, e41_204, e41_207, zs0, zsI, zsL, zsR, ztl1, ztl0, zc0, zcI, zcL, zcR, true_and, and_true, true_implies, false_implies, implies_true, not_true_eq_false, not_false_eq_true, and_self, Int.toNat_natCast, Nat.reduceAdd, Nat.reduceLeDiff, Nat.reduceLT, forall_eq', Option.some.injEq, zarR, zarI, zarL, zle, zq0, zq1, zq2, zq3, zq4, zq5, zq6, zq8, zq9, zq10, zq20, zq7, zq12, zq24, zq40, zq41, zq48, zq100, zq120, zq123, zq480, zq492, zq700, zq729, zq2187, zq2916, zq8748, ne_eq, Int.reduceEq, Int.reduceLT, Int.reduceLE, Int.reduceToNat, Int.reduceMul, Int.reduceAdd, Int.reduceNeg, gk46 hg, gr46_0 hg, gr46_1 hg, gr46_2 hg, gr46_3 hg, gr46_4 hg, gr46_6 hg, gr46_7 hg, gr46_8 hg, gr46_9 hg, gr46_10 hg, gr46_11 hg, gr46_12 hg, gr46_13 hg, gk49 hg, gr49_0 hg, gr49_1 hg, gr49_2 hg, gr49_3 hg, gr49_4 hg, gr49_5 hg, gr49_6 hg, gr49_7 hg, gr49_8 hg, gk74 hg, gl74 hg, gk80 hg, gl80 hg, gr80_0 hg, gr80_1 hg, gr80_2 hg, gr80_3 hg, wm, wr_id (z := (m : Int)) (by omega), m4, hg80m, B6, w5, w6]
          apply lastl (nB T) 0 _ (by omega) hm0
          · intro c i q1 q2 q3 q4 q5 q6 q7 q8
            have q9 : ¬ c = 74 ∨ (i < A ∨ A + nB T ≤ i) := by omega
            have e : zcp h5 (81 + m) 0 74 A (nB T) c i = h5 c i := by
              rcases q9 with q9 | q9
              · exact zcp_c q9
              · exact zcp_o q9
            rw [e, p0 c i q1 q2 q3 q4 (by omega) (by omega) (by omega) (by omega), zcp_c (by omega)]
            exact F4 c i q1 q2 q3 q4 q5 q6 q7 q8
          · intro a b q1 q2
            rw [zcp_c (by decide), p0 _ _ (by decide) (by decide) (by omega) (by omega) (by omega) (by omega) (by omega) (by omega), zcp_c (by omega)]
            exact R4 a b q1 q2
          · intro b' q
            omega
          · intro b' _ q
            rw [zcp_c (by decide), p0 _ _ (by decide) (by decide) (by omega) (by omega) (by omega) (by omega) (by omega) (by omega), zcp_c (by omega)]
            exact E4 b' q
          · intro a b q1 q2 q3
            by_cases q4 : a = all
            · subst q4
              rw [hPR, ← hA, zcp_i q2, Nat.zero_add]
              exact p1 b q2
            · have s1 := idx_b (show a < all by omega) q2
              rw [zcp_o (by omega), p0 _ _ (by decide) (by decide) (by omega) (by omega) (by omega) (by omega) (by omega) (by omega), zcp_c (by omega), L4]
              exact f2 hm0 a b (by omega) q2 q3
          · rw [zcp_c (by decide)]
            exact p2
          · rw [zcp_c (by decide), p3, zcp_c (by omega), U4, f4]
            constructor
            · rintro ((q | ⟨q, a, qa, qb⟩) | q)
              · exact Or.inl q
              · exact Or.inr ⟨q, a, by omega, qb⟩
              · exact Or.inr ⟨hm0, all, by omega, q⟩
            · rintro (q | ⟨q, a, qa, qb⟩)
              · exact Or.inl (Or.inl q)
              · by_cases q4 : a = all
                · subst q4
                  exact Or.inr qb
                · exact Or.inl (Or.inr ⟨q, a, by omega, qb⟩)
      · have c3 : ¬ (t : Int) = (all : Int) := by omega
        simp only [e41_0, e41_1, e41_2, e41_3, e41_6, e41_9, e41_10, e41_11, e41_13, e41_14, e41_15, e41_18, e41_19, e41_22, e41_23, e41_26, e41_27, e41_28, e41_29, e41_30, e41_33, e41_34, e41_35, e41_36, e41_39, e41_40, e41_43, e41_46, e41_47, e41_48, e41_51, e41_53, e41_54, e41_57, e41_60, e41_63, e41_64, e41_65, e41_68, e41_69, e41_70, e41_73, e41_74, e41_75, e41_76, e41_79, e41_80, e41_83, e41_86, e41_87, e41_88, e41_91, e41_92, e41_93, e41_94, e41_95, e41_96, e41_98, e41_101, e41_102, e41_103, e41_104, e41_105, e41_108, e41_109, e41_110, e41_113, e41_114, e41_115, e41_116, e41_117, e41_118, e41_119, e41_122, e41_124, e41_125, e41_128, e41_131, e41_134, e41_135, e41_139, e41_140, e41_143, e41_146, e41_149, e41_150, e41_153, e41_155, e41_157, e41_158, e41_159, e41_160, e41_161, e41_164, e41_167, e41_168, e41_169, e41_172, e41_173, e41_174, e41_177, e41_178, e41_179, e41_180, e41_183, e41_186, e41_187, e41_188, e41_190, e41_191, e41_192, e41_193, e41_196, e41_199, e41_200, e41_201, e41_204, e41_207, zs0, zsI, zsL, zsR, ztl1, ztl0, zc0, zcI, zcL, zcR, true_and, and_true, true_implies, false_implies, implies_true, not_true_eq_false, not_false_eq_true, and_self, Int.toNat_natCast, Nat.reduceAdd, Nat.reduceLeDiff, Nat.reduceLT, forall_eq', Option.some.injEq, zarR, zarI, zarL, zle, zq0, zq1, zq2, zq3, zq4, zq5, zq6, zq8, zq9, zq10, zq20, zq7, zq12, zq24, zq40, zq41, zq48, zq100, zq120, zq123, zq480, zq492, zq700, zq729, zq2187, zq2916, zq8748, ne_eq, Int.reduceEq, Int.reduceLT, Int.reduceLE, Int.reduceToNat, Int.reduceMul, Int.reduceAdd, Int.reduceNeg, gk46 hg, gr46_0 hg, gr46_1 hg, gr46_2 hg, gr46_3 hg, gr46_4 hg, gr46_6 hg, gr46_7 hg, gr46_8 hg, gr46_9 hg, gr46_10 hg, gr46_11 hg, gr46_12 hg, gr46_13 hg, gk72 hg, gl72 hg, c2, w7, T4, c3]
        apply lastl (nB T) 0 _ (by omega) hm0 F4 R4
        · intro b' q
          omega
        · intro b' _ q
          exact E4 b' q
        · intro a b q1 q2 q3
          have : ¬ a = all := by
            intro q4
            subst q4
            rw [t1] at q3
            omega
          rw [L4]
          exact f2 hm0 a b (by omega) q2 q3
        · rw [U4]
          exact f3
        · rw [U4, f4]
          constructor
          · rintro (q | ⟨q, a, qa, qb⟩)
            · exact Or.inl q
            · exact Or.inr ⟨q, a, by omega, qb⟩
          · rintro (q | ⟨q, a, qa, qb⟩)
            · exact Or.inl q
            · by_cases q4 : a = all
              · subst q4
                rw [← hnxt] at qb
                exact Or.inr ⟨q, t, by omega, qb⟩
              · exact Or.inr ⟨q, a, by omega, qb⟩
end WE
