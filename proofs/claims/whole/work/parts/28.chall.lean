/-! whom all choose, packed -/
def aPkU (T : aTn) (own oth : Nat → Int) (s : Nat) : Nat → Int
  | 0 => zor ((aCh T own oth s 0 3 : Nat) * 64) ((aCh T own oth s 1 3 : Nat) * 256)
  | i + 1 => zor (aPkU T own oth s i) ((aCh T own oth s (tr T 7 s) i : Nat) * 2 ^ (2 * i))
def aPk (T : aTn) (own oth : Nat → Int) (s : Nat) : Int := aPkU T own oth s (nB T)
theorem zo1 : ∀ a b : Fin 4, zor ((a.val : Nat) * 64) ((b.val : Nat) * 256) = ((64 * (a.val + 4 * b.val) : Nat) : Int) := by decide +kernel
theorem zo2 : ∀ (m : Fin 16) (c : Fin 4), zor ((64 * m.val : Nat) : Int) ((c.val : Nat) * 2 ^ (2 * 0)) = ((64 * m.val + c.val : Nat) : Int) := by decide +kernel
theorem zo3 : ∀ (m : Fin 16) (c e : Fin 4), zor ((64 * m.val + c.val : Nat) : Int) ((e.val : Nat) * 2 ^ (2 * 1)) = ((64 * m.val + c.val + 4 * e.val : Nat) : Int) := by decide +kernel
theorem zo4 : ∀ (m : Fin 16) (c e f : Fin 4), zor ((64 * m.val + c.val + 4 * e.val : Nat) : Int) ((f.val : Nat) * 2 ^ (2 * 2)) = ((64 * m.val + c.val + 4 * e.val + 16 * f.val : Nat) : Int) := by decide +kernel
theorem za3 : ∀ m : Fin 1024, zand (m.val : Nat) 3 = ((m.val % 4 : Nat) : Int) := by decide +kernel
/-- whom a kind chooses: those held by a baker, new near ones, new far ones -/
def aTo (T : aTn) (own oth : Nat → Int) (s k : Nat) : Nat := if k < 3 then aCh T own oth s (tr T 7 s) k else if k = 3 then aCh T own oth s 0 3 else aCh T own oth s 1 3
theorem aPk_to {T : aTn} (hw : wT T) {own oth : Nat → Int} {s k : Nat} (hk : k < nB T ∨ k = 3 ∨ k = 4) : zand (aPk T own oth s / 2 ^ (2 * k)) 3 = (aTo T own oth s k : Nat) := by
  have hb := hw.1
  have e3 := aCh_b hw (own := own) (oth := oth) (s := s) (far := 0) (f := 3) (Or.inl rfl)
  have e4 := aCh_b hw (own := own) (oth := oth) (s := s) (far := 1) (f := 3) (Or.inl rfl)
  have e0 := aCh_b hw (own := own) (oth := oth) (s := s) (far := tr T 7 s) (f := 0) (Or.inr (by omega))
  have e1 := aCh_b hw (own := own) (oth := oth) (s := s) (far := tr T 7 s) (f := 1) (Or.inr (by omega))
  have q1 := zo1 ⟨aCh T own oth s 0 3, by omega⟩ ⟨aCh T own oth s 1 3, by omega⟩
  have q2 := zo2 ⟨aCh T own oth s 0 3 + 4 * aCh T own oth s 1 3, by omega⟩ ⟨aCh T own oth s (tr T 7 s) 0, by omega⟩
  have q3 := zo3 ⟨aCh T own oth s 0 3 + 4 * aCh T own oth s 1 3, by omega⟩ ⟨aCh T own oth s (tr T 7 s) 0, by omega⟩ ⟨aCh T own oth s (tr T 7 s) 1, by omega⟩
  dsimp only at q1 q2 q3
  have h2 : nB T = 2 ∨ nB T = 3 := by omega
  have fin : ∀ N : Nat, N < 1024 → ∀ v, N / 2 ^ (2 * k) % 4 = v → zand ((N : Int) / 2 ^ (2 * k)) 3 = (v : Nat) := by
    intro N hN v hv
    have hlt : N / 2 ^ (2 * k) < 1024 := Nat.lt_of_le_of_lt (Nat.div_le_self _ _) hN
    have h9 := za3 ⟨N / 2 ^ (2 * k), hlt⟩
    dsimp only at h9
    rw [hv] at h9
    rw [← h9]
    congr 1
  rcases h2 with h2 | h2
  · have e : aPk T own oth s = ((64 * (aCh T own oth s 0 3 + 4 * aCh T own oth s 1 3) + aCh T own oth s (tr T 7 s) 0 + 4 * aCh T own oth s (tr T 7 s) 1 : Nat) : Int) := by
      unfold aPk
      rw [h2]
      unfold aPkU
      unfold aPkU
      unfold aPkU
      rw [q1, q2, q3]
    rw [e]
    apply fin _ (by omega)
    unfold aTo
    have hk' : k = 0 ∨ k = 1 ∨ k = 3 ∨ k = 4 := by omega
    rcases hk' with rfl | rfl | rfl | rfl
    · rw [if_pos (by decide)]
      omega
    · rw [if_pos (by decide)]
      omega
    · rw [if_neg (by decide), if_pos rfl]
      omega
    · rw [if_neg (by decide), if_neg (by decide)]
      omega
  · have e2 := aCh_b hw (own := own) (oth := oth) (s := s) (far := tr T 7 s) (f := 2) (Or.inr (by omega))
    have q4 := zo4 ⟨aCh T own oth s 0 3 + 4 * aCh T own oth s 1 3, by omega⟩ ⟨aCh T own oth s (tr T 7 s) 0, by omega⟩ ⟨aCh T own oth s (tr T 7 s) 1, by omega⟩ ⟨aCh T own oth s (tr T 7 s) 2, by omega⟩
    dsimp only at q4
    have e : aPk T own oth s = ((64 * (aCh T own oth s 0 3 + 4 * aCh T own oth s 1 3) + aCh T own oth s (tr T 7 s) 0 + 4 * aCh T own oth s (tr T 7 s) 1 + 16 * aCh T own oth s (tr T 7 s) 2 : Nat) : Int) := by
      unfold aPk
      rw [h2]
      unfold aPkU
      unfold aPkU
      unfold aPkU
      unfold aPkU
      rw [q1, q2, q3, q4]
    rw [e]
    apply fin _ (by omega)
    unfold aTo
    have hk' : k = 0 ∨ k = 1 ∨ k = 2 ∨ k = 3 ∨ k = 4 := by omega
    rcases hk' with rfl | rfl | rfl | rfl | rfl
    · rw [if_pos (by decide)]
      omega
    · rw [if_pos (by decide)]
      omega
    · rw [if_pos (by decide)]
      omega
    · rw [if_neg (by decide), if_pos rfl]
      omega
    · rw [if_neg (by decide), if_neg (by decide)]
      omega
section CA16
variable {d : Nat} {Q : zQ} {G : zG} {h : zM} {T : aTn} {own oth : Nat → Int}
theorem c_chAll16 (hg : gS G) (hT : kT h 18 T) (hw : wT T) (ho : ∀ t, t < nB T → h 28 t = own t) (hn : ∀ t, t < nB T → h 29 t = oth t) (bo : bP own) (bn : bP oth) {r a0 : Nat} (hr : 30 < r) (hr1 : G.2.1 r = 10) (hr2 : a0 + nS T ≤ G.2.2.1 r) (hr3 : ((G.2.2.1 r : Nat) : Int) < 100000) (K : ∀ h' : zM, (∀ c i, ¬ c = 30 → ¬ (c = 17 ∧ i = 4) → ¬ (c = r ∧ a0 ≤ i ∧ i < a0 + nS T) → h' c i = h c i) → (∀ s, s < nS T → h' r (a0 + s) = aPk T own oth s) → Q none G h') : zRunD ztb zmt' (d + 4) 11 [zR (some 17), zR (some r), zI a0] G h Q := by
  rw [r11]
  have hb := hw.1
  have hns := hw.2.1
  have lp : ∀ j s (h1 : zM) (l4 l5 : Option zV), s + j = nS T → (∀ c i, ¬ c = 30 → ¬ (c = 17 ∧ i = 4) → ¬ (c = r ∧ a0 ≤ i ∧ i < a0 + s) → h1 c i = h c i) → (∀ s', s' < s → h1 r (a0 + s') = aPk T own oth s') → zE 11 (d + 3) Q 2 [some (zR (some 17)), some (zR (some r)), some (zI a0), some (zI s), l4, l5] [] G h1 (0, 0) := by
    intro j
    induction j with
    | zero =>
      intro s h1 l4 l5 hs hf hv
      have hT1 : kT h1 18 T := kT_frame hT (fun c i h5 h6 => hf c i (by omega) (by omega) (by omega))
      have e1 := hT1.2.1
      have c : (nS T : Int) ≤ s := by omega
      have hs' : s = nS T := by omega
      subst hs'
      rw [e11_2]
      simp only [e11_0, e11_1, e11_3, e11_4, e11_7, e11_10, e11_13, e11_14, e11_15, e11_18, e11_19, e11_20, e11_21, e11_24, e11_26, e11_27, e11_28, e11_29, e11_30, e11_33, e11_35, e11_36, e11_37, e11_39, e11_40, e11_44, e11_45, e11_48, e11_51, e11_54, e11_56, e11_57, e11_59, e11_60, e11_63, e11_66, e11_67, e11_68, e11_69, e11_72, e11_73, e11_76, e11_77, e11_80, e11_81, e11_83, e11_84, e11_85, e11_86, e11_88, e11_91, e11_94, e11_95, e11_96, e11_97, e11_98, e11_100, e11_101, e11_104, e11_107, zs0, zsI, zsL, zsR, ztl1, ztl0, zc0, zcI, zcL, zcR, true_and, and_true, true_implies, false_implies, implies_true, not_true_eq_false, not_false_eq_true, and_self, Int.toNat_natCast, Nat.reduceAdd, Nat.reduceLeDiff, Nat.reduceLT, forall_eq', Option.some.injEq, zarR, zarI, zarL, zle, zq0, zq1, zq2, zq3, zq4, zq5, zq6, zq8, zq9, zq10, zq20, zq7, zq12, zq24, zq40, zq41, zq48, zq100, zq120, zq123, zq480, zq492, zq700, zq729, zq2187, zq2916, zq8748, ne_eq, Int.reduceEq, Int.reduceLT, Int.reduceLE, Int.reduceToNat, Int.reduceMul, Int.reduceAdd, Int.reduceNeg, gk17 hg, gr17_0 hg, gr17_1 hg, gr17_2 hg, gr17_3 hg, gk18 hg, gr18_0 hg, gr18_1 hg, gr18_2 hg, gr18_3 hg, gr18_4 hg, gr18_5 hg, gr18_6 hg, gr18_7 hg, gr18_8 hg, e1, c]
      exact K h1 hf hv
    | succ j ih =>
      intro s h1 l4 l5 hs hf hv
      have hT1 : kT h1 18 T := kT_frame hT (fun c i h5 h6 => hf c i (by omega) (by omega) (by omega))
      have e1 := hT1.2.1
      have c : ¬ (nS T : Int) ≤ s := by omega
      rw [e11_2]
      simp only [e11_0, e11_1, e11_3, e11_4, e11_7, e11_10, e11_13, e11_14, e11_15, e11_18, e11_19, e11_20, e11_21, e11_24, e11_26, e11_27, e11_28, e11_29, e11_30, e11_33, e11_35, e11_36, e11_37, e11_39, e11_40, e11_44, e11_45, e11_48, e11_51, e11_54, e11_56, e11_57, e11_59, e11_60, e11_63, e11_66, e11_67, e11_68, e11_69, e11_72, e11_73, e11_76, e11_77, e11_80, e11_81, e11_83, e11_84, e11_85, e11_86, e11_88, e11_91, e11_94, e11_95, e11_96, e11_97, e11_98, e11_100, e11_101, e11_104, e11_107, zs0, zsI, zsL, zsR, ztl1, ztl0, zc0, zcI, zcL, zcR, true_and, and_true, true_implies, false_implies, implies_true, not_true_eq_false, not_false_eq_true, and_self, Int.toNat_natCast, Nat.reduceAdd, Nat.reduceLeDiff, Nat.reduceLT, forall_eq', Option.some.injEq, zarR, zarI, zarL, zle, zq0, zq1, zq2, zq3, zq4, zq5, zq6, zq8, zq9, zq10, zq20, zq7, zq12, zq24, zq40, zq41, zq48, zq100, zq120, zq123, zq480, zq492, zq700, zq729, zq2187, zq2916, zq8748, ne_eq, Int.reduceEq, Int.reduceLT, Int.reduceLE, Int.reduceToNat, Int.reduceMul, Int.reduceAdd, Int.reduceNeg, gk17 hg, gr17_0 hg, gr17_1 hg, gr17_2 hg, gr17_3 hg, gk18 hg, gr18_0 hg, gr18_1 hg, gr18_2 hg, gr18_3 hg, gr18_4 hg, gr18_5 hg, gr18_6 hg, gr18_7 hg, gr18_8 hg, e1, c]
      apply c_turn16 (d := d) (own := own) (oth := oth) hg hT1 hw (by omega) (fun t ht => by rw [hf _ _ (by decide) (by omega) (by omega)]; exact ho t ht) (fun t ht => by rw [hf _ _ (by decide) (by omega) (by omega)]; exact hn t ht) bo bn
      intro h2 hf2 hs2 ha2
      have hT2 : kT h2 18 T := kT_frame hT1 (fun c i h5 h6 => hf2 c i (by omega) (by omega))
      have ho2 : ∀ t, t < nB T → h2 28 t = own t := fun t ht => by rw [hf2 _ _ (by decide) (by omega), hf _ _ (by decide) (by omega) (by omega)]; exact ho t ht
      have hn2 : ∀ t, t < nB T → h2 29 t = oth t := fun t ht => by rw [hf2 _ _ (by decide) (by omega), hf _ _ (by decide) (by omega) (by omega)]; exact hn t ht
      have hx : ∀ f (far : Int), f < nB T ∨ f = 3 → ∀ Q' : zQ, zRunD ztb zmt' (d + 3) 10 [zR (some 17), zI f, zI far] G h2 Q' ↔ Q' (some (zI (aCh T own oth s far f : Nat))) G h2 := fun f far hf Q' => c_choice16 (d := d + 1) hg hT2 hw hs2 (by omega) hf ho2 hn2 bo bn ha2
      have hx3 : ∀ (far : Int), ∀ Q' : zQ, zRunD ztb zmt' (d + 3) 10 [zR (some 17), zI 3, zI far] G h2 Q' ↔ Q' (some (zI (aCh T own oth s far 3 : Nat))) G h2 := fun far Q' => hx 3 far (Or.inr rfl) Q'
      have g1 := hT2.1
      have g2 := hT2.2.2.2.2.2.2.2.2.2.2.2.2.1 s (by omega)
      have s4 : (s : Int) < 4 := by omega
      have hfar := hw.2.2.2.2.2 s
      have u3 := aCh_b hw (own := own) (oth := oth) (s := s) (far := 0) (f := 3) (Or.inl rfl)
      have u4 := aCh_b hw (own := own) (oth := oth) (s := s) (far := 1) (f := 3) (Or.inl rfl)
      have inn : ∀ jb b, b + jb = nB T → (zE 11 (d + 3) Q 42 [some (zR (some 17)), some (zR (some r)), some (zI a0), some (zI s), some (zI (aPkU T own oth s b)), some (zI b)] [] G h2 (0, 0) ↔ zE 11 (d + 3) Q 94 [some (zR (some 17)), some (zR (some r)), some (zI a0), some (zI s), some (zI (aPk T own oth s)), some (zI (nB T))] [] G h2 (0, 0)) := by
        intro jb
        induction jb with
        | zero =>
          intro b hb2
          have c : (nB T : Int) ≤ b := by omega
          have hb3 : b = nB T := by omega
          rw [e11_42]
          simp only [e11_0, e11_1, e11_3, e11_4, e11_7, e11_10, e11_13, e11_14, e11_15, e11_18, e11_19, e11_20, e11_21, e11_24, e11_26, e11_27, e11_28, e11_29, e11_30, e11_33, e11_35, e11_36, e11_37, e11_39, e11_40, e11_44, e11_45, e11_48, e11_51, e11_54, e11_56, e11_57, e11_59, e11_60, e11_63, e11_66, e11_67, e11_68, e11_69, e11_72, e11_73, e11_76, e11_77, e11_80, e11_81, e11_83, e11_84, e11_85, e11_86, e11_88, e11_91, e11_95, e11_96, e11_97, e11_98, e11_100, e11_101, e11_104, e11_107, zs0, zsI, zsL, zsR, ztl1, ztl0, zc0, zcI, zcL, zcR, true_and, and_true, true_implies, false_implies, implies_true, not_true_eq_false, not_false_eq_true, and_self, Int.toNat_natCast, Nat.reduceAdd, Nat.reduceLeDiff, Nat.reduceLT, forall_eq', Option.some.injEq, zarR, zarI, zarL, zle, zq0, zq1, zq2, zq3, zq4, zq5, zq6, zq8, zq9, zq10, zq20, zq7, zq12, zq24, zq40, zq41, zq48, zq100, zq120, zq123, zq480, zq492, zq700, zq729, zq2187, zq2916, zq8748, ne_eq, Int.reduceEq, Int.reduceLT, Int.reduceLE, Int.reduceToNat, Int.reduceMul, Int.reduceAdd, Int.reduceNeg, gk17 hg, gr17_0 hg, gr17_1 hg, gr17_2 hg, gr17_3 hg, gk18 hg, gr18_0 hg, gr18_1 hg, gr18_2 hg, gr18_3 hg, gr18_4 hg, gr18_5 hg, gr18_6 hg, gr18_7 hg, gr18_8 hg, g1, c]
          rw [hb3]
          rfl
        | succ jb ihb =>
          intro b hb2
          have c : ¬ (nB T : Int) ≤ b := by omega
          have w1 : wr (2 * (b : Int)) = ((2 * b : Nat) : Int) := by
            rw [wr_id (by omega)]
            omega
          have w2 : ((2 * b : Nat) : Int) < 32 := by omega
          have u5 := aCh_b hw (own := own) (oth := oth) (s := s) (far := tr T 7 s) (f := b) (Or.inr (by omega))
          have w3 : wr ((aCh T own oth s (tr T 7 s) b : Nat) * 2 ^ (2 * b)) = (aCh T own oth s (tr T 7 s) b : Nat) * 2 ^ (2 * b) := by
            apply wr_id
            have hb4 : b = 0 ∨ b = 1 ∨ b = 2 := by omega
            rcases hb4 with rfl | rfl | rfl <;> simp only [Nat.reduceMul, Int.reducePow] <;> omega
          rw [e11_42]
          rcases hfar.2.2.2.2.2.2.2.1 with h7 | h7
          · rw [h7] at w3 g2 u5
            have hib := ihb (b + 1) (by omega)
            simp only [aPkU, h7] at hib
            simp only [e11_0, e11_1, e11_3, e11_4, e11_7, e11_10, e11_13, e11_14, e11_15, e11_18, e11_19, e11_20, e11_21, e11_24, e11_26, e11_27, e11_28, e11_29, e11_30, e11_33, e11_35, e11_36, e11_37, e11_39, e11_40, e11_44, e11_45, e11_48, e11_51, e11_54, e11_56, e11_57, e11_59, e11_60, e11_63, e11_66, e11_67, e11_68, e11_69, e11_72, e11_73, e11_76, e11_77, e11_80, e11_81, e11_83, e11_84, e11_85, e11_86, e11_88, e11_91, e11_95, e11_96, e11_97, e11_98, e11_100, e11_101, e11_104, e11_107, zs0, zsI, zsL, zsR, ztl1, ztl0, zc0, zcI, zcL, zcR, true_and, and_true, true_implies, false_implies, implies_true, not_true_eq_false, not_false_eq_true, and_self, Int.toNat_natCast, Nat.reduceAdd, Nat.reduceLeDiff, Nat.reduceLT, forall_eq', Option.some.injEq, zarR, zarI, zarL, zle, zq0, zq1, zq2, zq3, zq4, zq5, zq6, zq8, zq9, zq10, zq20, zq7, zq12, zq24, zq40, zq41, zq48, zq100, zq120, zq123, zq480, zq492, zq700, zq729, zq2187, zq2916, zq8748, ne_eq, Int.reduceEq, Int.reduceLT, Int.reduceLE, Int.reduceToNat, Int.reduceMul, Int.reduceAdd, Int.reduceNeg, gk17 hg, gr17_0 hg, gr17_1 hg, gr17_2 hg, gr17_3 hg, gk18 hg, gr18_0 hg, gr18_1 hg, gr18_2 hg, gr18_3 hg, gr18_4 hg, gr18_5 hg, gr18_6 hg, gr18_7 hg, gr18_8 hg, gk26 hg, gl26 hg, g1, g2, c, s4, hx b 0 (by omega), w1, w2, w3, wr_s (show b < 2147483647 by omega)]
            exact hib
          · rw [h7] at w3 g2 u5
            have hib := ihb (b + 1) (by omega)
            simp only [aPkU, h7] at hib
            simp only [e11_0, e11_1, e11_3, e11_4, e11_7, e11_10, e11_13, e11_14, e11_15, e11_18, e11_19, e11_20, e11_21, e11_24, e11_26, e11_27, e11_28, e11_29, e11_30, e11_33, e11_35, e11_36, e11_37, e11_39, e11_40, e11_44, e11_45, e11_48, e11_51, e11_54, e11_56, e11_57, e11_59, e11_60, e11_63, e11_66, e11_67, e11_68, e11_69, e11_72, e11_73, e11_76, e11_77, e11_80, e11_81, e11_83, e11_84, e11_85, e11_86, e11_88, e11_91, e11_95, e11_96, e11_97, e11_98, e11_100, e11_101, e11_104, e11_107, zs0, zsI, zsL, zsR, ztl1, ztl0, zc0, zcI, zcL, zcR, true_and, and_true, true_implies, false_implies, implies_true, not_true_eq_false, not_false_eq_true, and_self, Int.toNat_natCast, Nat.reduceAdd, Nat.reduceLeDiff, Nat.reduceLT, forall_eq', Option.some.injEq, zarR, zarI, zarL, zle, zq0, zq1, zq2, zq3, zq4, zq5, zq6, zq8, zq9, zq10, zq20, zq7, zq12, zq24, zq40, zq41, zq48, zq100, zq120, zq123, zq480, zq492, zq700, zq729, zq2187, zq2916, zq8748, ne_eq, Int.reduceEq, Int.reduceLT, Int.reduceLE, Int.reduceToNat, Int.reduceMul, Int.reduceAdd, Int.reduceNeg, gk17 hg, gr17_0 hg, gr17_1 hg, gr17_2 hg, gr17_3 hg, gk18 hg, gr18_0 hg, gr18_1 hg, gr18_2 hg, gr18_3 hg, gr18_4 hg, gr18_5 hg, gr18_6 hg, gr18_7 hg, gr18_8 hg, gk26 hg, gl26 hg, g1, g2, c, s4, hx b 1 (by omega), w1, w2, w3, wr_s (show b < 2147483647 by omega)]
            exact hib
      have v6 : ((a0 + s : Nat) : Int) < (G.2.2.1 r : Int) := by omega
      have v3 : wr ((aCh T own oth s 0 3 : Nat) * 64) = (aCh T own oth s 0 3 : Nat) * 64 := wr_id (by omega)
      have v4 : wr ((aCh T own oth s 1 3 : Nat) * 256) = (aCh T own oth s 1 3 : Nat) * 256 := wr_id (by omega)
      have v5 : wr ((a0 : Int) + s) = ((a0 + s : Nat) : Int) := by
        rw [wr_id (by omega)]
        omega
      have i0 := inn (nB T) 0 (by omega)
      simp only [aPkU, zq0] at i0
      simp only [e11_0, e11_1, e11_3, e11_4, e11_7, e11_10, e11_13, e11_14, e11_15, e11_18, e11_19, e11_20, e11_21, e11_24, e11_26, e11_27, e11_28, e11_29, e11_30, e11_33, e11_35, e11_36, e11_37, e11_39, e11_40, e11_44, e11_45, e11_48, e11_51, e11_54, e11_56, e11_57, e11_59, e11_60, e11_63, e11_66, e11_67, e11_68, e11_69, e11_72, e11_73, e11_76, e11_77, e11_80, e11_81, e11_83, e11_84, e11_85, e11_86, e11_88, e11_91, e11_94, e11_95, e11_96, e11_97, e11_98, e11_100, e11_101, e11_104, e11_107, zs0, zsI, zsL, zsR, ztl1, ztl0, zc0, zcI, zcL, zcR, true_and, and_true, true_implies, false_implies, implies_true, not_true_eq_false, not_false_eq_true, and_self, Int.toNat_natCast, Nat.reduceAdd, Nat.reduceLeDiff, Nat.reduceLT, forall_eq', Option.some.injEq, zarR, zarI, zarL, zle, zq0, zq1, zq2, zq3, zq4, zq5, zq6, zq8, zq9, zq10, zq20, zq7, zq12, zq24, zq40, zq41, zq48, zq100, zq120, zq123, zq480, zq492, zq700, zq729, zq2187, zq2916, zq8748, ne_eq, Int.reduceEq, Int.reduceLT, Int.reduceLE, Int.reduceToNat, Int.reduceMul, Int.reduceAdd, Int.reduceNeg, gk17 hg, gr17_0 hg, gr17_1 hg, gr17_2 hg, gr17_3 hg, gk18 hg, gr18_0 hg, gr18_1 hg, gr18_2 hg, gr18_3 hg, gr18_4 hg, gr18_5 hg, gr18_6 hg, gr18_7 hg, gr18_8 hg, hx3, v3, v4, Int.reducePow]
      rw [i0]
      simp only [e11_0, e11_1, e11_3, e11_4, e11_7, e11_10, e11_13, e11_14, e11_15, e11_18, e11_19, e11_20, e11_21, e11_24, e11_26, e11_27, e11_28, e11_29, e11_30, e11_33, e11_35, e11_36, e11_37, e11_39, e11_40, e11_44, e11_45, e11_48, e11_51, e11_54, e11_56, e11_57, e11_59, e11_60, e11_63, e11_66, e11_67, e11_68, e11_69, e11_72, e11_73, e11_76, e11_77, e11_80, e11_81, e11_83, e11_84, e11_85, e11_86, e11_88, e11_91, e11_94, e11_95, e11_96, e11_97, e11_98, e11_100, e11_101, e11_104, e11_107, zs0, zsI, zsL, zsR, ztl1, ztl0, zc0, zcI, zcL, zcR, true_and, and_true, true_implies, false_implies, implies_true, not_true_eq_false, not_false_eq_true, and_self, Int.toNat_natCast, Nat.reduceAdd, Nat.reduceLeDiff, Nat.reduceLT, forall_eq', Option.some.injEq, zarR, zarI, zarL, zle, zq0, zq1, zq2, zq3, zq4, zq5, zq6, zq8, zq9, zq10, zq20, zq7, zq12, zq24, zq40, zq41, zq48, zq100, zq120, zq123, zq480, zq492, zq700, zq729, zq2187, zq2916, zq8748, ne_eq, Int.reduceEq, Int.reduceLT, Int.reduceLE, Int.reduceToNat, Int.reduceMul, Int.reduceAdd, Int.reduceNeg, hr1, v5, v6, wr_s (show s < 2147483647 by omega)]
      clear v3 v4 v5 v6 i0 hr3
      apply ih (s + 1) _ _ _ (by omega)
      · intro c i h5 h6 h7
        have h8 : ¬ (c = r ∧ i = a0 + s) := by omega
        unfold zu
        rw [if_neg h8, hf2 c i h5 h6]
        exact hf c i h5 h6 (by omega)
      · intro s' hs'
        by_cases h8 : s' = s
        · subst h8
          exact zu_at
        · rw [zu_i (by omega), hf2 r _ (by omega) (by omega)]
          exact hv s' (by omega)
  simp only [e11_0, e11_1, e11_3, e11_4, e11_7, e11_10, e11_13, e11_14, e11_15, e11_18, e11_19, e11_20, e11_21, e11_24, e11_26, e11_27, e11_28, e11_29, e11_30, e11_33, e11_35, e11_36, e11_37, e11_39, e11_40, e11_44, e11_45, e11_48, e11_51, e11_54, e11_56, e11_57, e11_59, e11_60, e11_63, e11_66, e11_67, e11_68, e11_69, e11_72, e11_73, e11_76, e11_77, e11_80, e11_81, e11_83, e11_84, e11_85, e11_86, e11_88, e11_91, e11_94, e11_95, e11_96, e11_97, e11_98, e11_100, e11_101, e11_104, e11_107, zs0, zsI, zsL, zsR, ztl1, ztl0, zc0, zcI, zcL, zcR, true_and, and_true, true_implies, false_implies, implies_true, not_true_eq_false, not_false_eq_true, and_self, Int.toNat_natCast, Nat.reduceAdd, Nat.reduceLeDiff, Nat.reduceLT, forall_eq', Option.some.injEq, zarR, zarI, zarL, zle, zq0, zq1, zq2, zq3, zq4, zq5, zq6, zq8, zq9, zq10, zq20, zq7, zq12, zq24, zq40, zq41, zq48, zq100, zq120, zq123, zq480, zq492, zq700, zq729, zq2187, zq2916, zq8748, ne_eq, Int.reduceEq, Int.reduceLT, Int.reduceLE, Int.reduceToNat, Int.reduceMul, Int.reduceAdd, Int.reduceNeg]
  apply lp (nS T) 0 h none none (by omega)
  · intro c i _ _ _
    rfl
  · intro s hs
    omega
end CA16
section CA47
variable {d : Nat} {Q : zQ} {G : zG} {h : zM} {T : aTn} {own oth : Nat → Int}
theorem c_chAll47 (hg : gS G) (hT : kT h 49 T) (hw : wT T) (ho : ∀ t, t < nB T → h 59 t = own t) (hn : ∀ t, t < nB T → h 60 t = oth t) (bo : bP own) (bn : bP oth) {r a0 : Nat} (hr : 61 < r) (hr1 : G.2.1 r = 10) (hr2 : a0 + nS T ≤ G.2.2.1 r) (hr3 : ((G.2.2.1 r : Nat) : Int) < 100000) (K : ∀ h' : zM, (∀ c i, ¬ c = 61 → ¬ (c = 48 ∧ i = 4) → ¬ (c = r ∧ a0 ≤ i ∧ i < a0 + nS T) → h' c i = h c i) → (∀ s, s < nS T → h' r (a0 + s) = aPk T own oth s) → Q none G h') : zRunD ztb zmt' (d + 4) 11 [zR (some 48), zR (some r), zI a0] G h Q := by
  rw [r11]
  have hb := hw.1
  have hns := hw.2.1
  have lp : ∀ j s (h1 : zM) (l4 l5 : Option zV), s + j = nS T → (∀ c i, ¬ c = 61 → ¬ (c = 48 ∧ i = 4) → ¬ (c = r ∧ a0 ≤ i ∧ i < a0 + s) → h1 c i = h c i) → (∀ s', s' < s → h1 r (a0 + s') = aPk T own oth s') → zE 11 (d + 3) Q 2 [some (zR (some 48)), some (zR (some r)), some (zI a0), some (zI s), l4, l5] [] G h1 (0, 0) := by
    intro j
    induction j with
    | zero =>
      intro s h1 l4 l5 hs hf hv
      have hT1 : kT h1 49 T := kT_frame hT (fun c i h5 h6 => hf c i (by omega) (by omega) (by omega))
      have e1 := hT1.2.1
      have c : (nS T : Int) ≤ s := by omega
      have hs' : s = nS T := by omega
      subst hs'
      rw [e11_2]
      simp only [e11_0, e11_1, e11_3, e11_4, e11_7, e11_10, e11_13, e11_14, e11_15, e11_18, e11_19, e11_20, e11_21, e11_24, e11_26, e11_27, e11_28, e11_29, e11_30, e11_33, e11_35, e11_36, e11_37, e11_39, e11_40, e11_44, e11_45, e11_48, e11_51, e11_54, e11_56, e11_57, e11_59, e11_60, e11_63, e11_66, e11_67, e11_68, e11_69, e11_72, e11_73, e11_76, e11_77, e11_80, e11_81, e11_83, e11_84, e11_85, e11_86, e11_88, e11_91, e11_94, e11_95, e11_96, e11_97, e11_98, e11_100, e11_101, e11_104, e11_107, zs0, zsI, zsL, zsR, ztl1, ztl0, zc0, zcI, zcL, zcR, true_and, and_true, true_implies, false_implies, implies_true, not_true_eq_false, not_false_eq_true, and_self, Int.toNat_natCast, Nat.reduceAdd, Nat.reduceLeDiff, Nat.reduceLT, forall_eq', Option.some.injEq, zarR, zarI, zarL, zle, zq0, zq1, zq2, zq3, zq4, zq5, zq6, zq8, zq9, zq10, zq20, zq7, zq12, zq24, zq40, zq41, zq48, zq100, zq120, zq123, zq480, zq492, zq700, zq729, zq2187, zq2916, zq8748, ne_eq, Int.reduceEq, Int.reduceLT, Int.reduceLE, Int.reduceToNat, Int.reduceMul, Int.reduceAdd, Int.reduceNeg, gk48 hg, gr48_0 hg, gr48_1 hg, gr48_2 hg, gr48_3 hg, gk49 hg, gr49_0 hg, gr49_1 hg, gr49_2 hg, gr49_3 hg, gr49_4 hg, gr49_5 hg, gr49_6 hg, gr49_7 hg, gr49_8 hg, e1, c]
      exact K h1 hf hv
    | succ j ih =>
      intro s h1 l4 l5 hs hf hv
      have hT1 : kT h1 49 T := kT_frame hT (fun c i h5 h6 => hf c i (by omega) (by omega) (by omega))
      have e1 := hT1.2.1
      have c : ¬ (nS T : Int) ≤ s := by omega
      rw [e11_2]
      simp only [e11_0, e11_1, e11_3, e11_4, e11_7, e11_10, e11_13, e11_14, e11_15, e11_18, e11_19, e11_20, e11_21, e11_24, e11_26, e11_27, e11_28, e11_29, e11_30, e11_33, e11_35, e11_36, e11_37, e11_39, e11_40, e11_44, e11_45, e11_48, e11_51, e11_54, e11_56, e11_57, e11_59, e11_60, e11_63, e11_66, e11_67, e11_68, e11_69, e11_72, e11_73, e11_76, e11_77, e11_80, e11_81, e11_83, e11_84, e11_85, e11_86, e11_88, e11_91, e11_94, e11_95, e11_96, e11_97, e11_98, e11_100, e11_101, e11_104, e11_107, zs0, zsI, zsL, zsR, ztl1, ztl0, zc0, zcI, zcL, zcR, true_and, and_true, true_implies, false_implies, implies_true, not_true_eq_false, not_false_eq_true, and_self, Int.toNat_natCast, Nat.reduceAdd, Nat.reduceLeDiff, Nat.reduceLT, forall_eq', Option.some.injEq, zarR, zarI, zarL, zle, zq0, zq1, zq2, zq3, zq4, zq5, zq6, zq8, zq9, zq10, zq20, zq7, zq12, zq24, zq40, zq41, zq48, zq100, zq120, zq123, zq480, zq492, zq700, zq729, zq2187, zq2916, zq8748, ne_eq, Int.reduceEq, Int.reduceLT, Int.reduceLE, Int.reduceToNat, Int.reduceMul, Int.reduceAdd, Int.reduceNeg, gk48 hg, gr48_0 hg, gr48_1 hg, gr48_2 hg, gr48_3 hg, gk49 hg, gr49_0 hg, gr49_1 hg, gr49_2 hg, gr49_3 hg, gr49_4 hg, gr49_5 hg, gr49_6 hg, gr49_7 hg, gr49_8 hg, e1, c]
      apply c_turn47 (d := d) (own := own) (oth := oth) hg hT1 hw (by omega) (fun t ht => by rw [hf _ _ (by decide) (by omega) (by omega)]; exact ho t ht) (fun t ht => by rw [hf _ _ (by decide) (by omega) (by omega)]; exact hn t ht) bo bn
      intro h2 hf2 hs2 ha2
      have hT2 : kT h2 49 T := kT_frame hT1 (fun c i h5 h6 => hf2 c i (by omega) (by omega))
      have ho2 : ∀ t, t < nB T → h2 59 t = own t := fun t ht => by rw [hf2 _ _ (by decide) (by omega), hf _ _ (by decide) (by omega) (by omega)]; exact ho t ht
      have hn2 : ∀ t, t < nB T → h2 60 t = oth t := fun t ht => by rw [hf2 _ _ (by decide) (by omega), hf _ _ (by decide) (by omega) (by omega)]; exact hn t ht
      have hx : ∀ f (far : Int), f < nB T ∨ f = 3 → ∀ Q' : zQ, zRunD ztb zmt' (d + 3) 10 [zR (some 48), zI f, zI far] G h2 Q' ↔ Q' (some (zI (aCh T own oth s far f : Nat))) G h2 := fun f far hf Q' => c_choice47 (d := d + 1) hg hT2 hw hs2 (by omega) hf ho2 hn2 bo bn ha2
      have hx3 : ∀ (far : Int), ∀ Q' : zQ, zRunD ztb zmt' (d + 3) 10 [zR (some 48), zI 3, zI far] G h2 Q' ↔ Q' (some (zI (aCh T own oth s far 3 : Nat))) G h2 := fun far Q' => hx 3 far (Or.inr rfl) Q'
      have g1 := hT2.1
      have g2 := hT2.2.2.2.2.2.2.2.2.2.2.2.2.1 s (by omega)
      have s4 : (s : Int) < 4 := by omega
      have hfar := hw.2.2.2.2.2 s
      have u3 := aCh_b hw (own := own) (oth := oth) (s := s) (far := 0) (f := 3) (Or.inl rfl)
      have u4 := aCh_b hw (own := own) (oth := oth) (s := s) (far := 1) (f := 3) (Or.inl rfl)
      have inn : ∀ jb b, b + jb = nB T → (zE 11 (d + 3) Q 42 [some (zR (some 48)), some (zR (some r)), some (zI a0), some (zI s), some (zI (aPkU T own oth s b)), some (zI b)] [] G h2 (0, 0) ↔ zE 11 (d + 3) Q 94 [some (zR (some 48)), some (zR (some r)), some (zI a0), some (zI s), some (zI (aPk T own oth s)), some (zI (nB T))] [] G h2 (0, 0)) := by
        intro jb
        induction jb with
        | zero =>
          intro b hb2
          have c : (nB T : Int) ≤ b := by omega
          have hb3 : b = nB T := by omega
          rw [e11_42]
          simp only [e11_0, e11_1, e11_3, e11_4, e11_7, e11_10, e11_13, e11_14, e11_15, e11_18, e11_19, e11_20, e11_21, e11_24, e11_26, e11_27, e11_28, e11_29, e11_30, e11_33, e11_35, e11_36, e11_37, e11_39, e11_40, e11_44, e11_45, e11_48, e11_51, e11_54, e11_56, e11_57, e11_59, e11_60, e11_63, e11_66, e11_67, e11_68, e11_69, e11_72, e11_73, e11_76, e11_77, e11_80, e11_81, e11_83, e11_84, e11_85, e11_86, e11_88, e11_91, e11_95, e11_96, e11_97, e11_98, e11_100, e11_101, e11_104, e11_107, zs0, zsI, zsL, zsR, ztl1, ztl0, zc0, zcI, zcL, zcR, true_and, and_true, true_implies, false_implies, implies_true, not_true_eq_false, not_false_eq_true, and_self, Int.toNat_natCast, Nat.reduceAdd, Nat.reduceLeDiff, Nat.reduceLT, forall_eq', Option.some.injEq, zarR, zarI, zarL, zle, zq0, zq1, zq2, zq3, zq4, zq5, zq6, zq8, zq9, zq10, zq20, zq7, zq12, zq24, zq40, zq41, zq48, zq100, zq120, zq123, zq480, zq492, zq700, zq729, zq2187, zq2916, zq8748, ne_eq, Int.reduceEq, Int.reduceLT, Int.reduceLE, Int.reduceToNat, Int.reduceMul, Int.reduceAdd, Int.reduceNeg, gk48 hg, gr48_0 hg, gr48_1 hg, gr48_2 hg, gr48_3 hg, gk49 hg, gr49_0 hg, gr49_1 hg, gr49_2 hg, gr49_3 hg, gr49_4 hg, gr49_5 hg, gr49_6 hg, gr49_7 hg, gr49_8 hg, g1, c]
          rw [hb3]
          rfl
        | succ jb ihb =>
          intro b hb2
          have c : ¬ (nB T : Int) ≤ b := by omega
          have w1 : wr (2 * (b : Int)) = ((2 * b : Nat) : Int) := by
            rw [wr_id (by omega)]
            omega
          have w2 : ((2 * b : Nat) : Int) < 32 := by omega
          have u5 := aCh_b hw (own := own) (oth := oth) (s := s) (far := tr T 7 s) (f := b) (Or.inr (by omega))
          have w3 : wr ((aCh T own oth s (tr T 7 s) b : Nat) * 2 ^ (2 * b)) = (aCh T own oth s (tr T 7 s) b : Nat) * 2 ^ (2 * b) := by
            apply wr_id
            have hb4 : b = 0 ∨ b = 1 ∨ b = 2 := by omega
            rcases hb4 with rfl | rfl | rfl <;> simp only [Nat.reduceMul, Int.reducePow] <;> omega
          rw [e11_42]
          rcases hfar.2.2.2.2.2.2.2.1 with h7 | h7
          · rw [h7] at w3 g2 u5
            have hib := ihb (b + 1) (by omega)
            simp only [aPkU, h7] at hib
            simp only [e11_0, e11_1, e11_3, e11_4, e11_7, e11_10, e11_13, e11_14, e11_15, e11_18, e11_19, e11_20, e11_21, e11_24, e11_26, e11_27, e11_28, e11_29, e11_30, e11_33, e11_35, e11_36, e11_37, e11_39, e11_40, e11_44, e11_45, e11_48, e11_51, e11_54, e11_56, e11_57, e11_59, e11_60, e11_63, e11_66, e11_67, e11_68, e11_69, e11_72, e11_73, e11_76, e11_77, e11_80, e11_81, e11_83, e11_84, e11_85, e11_86, e11_88, e11_91, e11_95, e11_96, e11_97, e11_98, e11_100, e11_101, e11_104, e11_107, zs0, zsI, zsL, zsR, ztl1, ztl0, zc0, zcI, zcL, zcR, true_and, and_true, true_implies, false_implies, implies_true, not_true_eq_false, not_false_eq_true, and_self, Int.toNat_natCast, Nat.reduceAdd, Nat.reduceLeDiff, Nat.reduceLT, forall_eq', Option.some.injEq, zarR, zarI, zarL, zle, zq0, zq1, zq2, zq3, zq4, zq5, zq6, zq8, zq9, zq10, zq20, zq7, zq12, zq24, zq40, zq41, zq48, zq100, zq120, zq123, zq480, zq492, zq700, zq729, zq2187, zq2916, zq8748, ne_eq, Int.reduceEq, Int.reduceLT, Int.reduceLE, Int.reduceToNat, Int.reduceMul, Int.reduceAdd, Int.reduceNeg, gk48 hg, gr48_0 hg, gr48_1 hg, gr48_2 hg, gr48_3 hg, gk49 hg, gr49_0 hg, gr49_1 hg, gr49_2 hg, gr49_3 hg, gr49_4 hg, gr49_5 hg, gr49_6 hg, gr49_7 hg, gr49_8 hg, gk57 hg, gl57 hg, g1, g2, c, s4, hx b 0 (by omega), w1, w2, w3, wr_s (show b < 2147483647 by omega)]
            exact hib
          · rw [h7] at w3 g2 u5
            have hib := ihb (b + 1) (by omega)
            simp only [aPkU, h7] at hib
            simp only [e11_0, e11_1, e11_3, e11_4, e11_7, e11_10, e11_13, e11_14, e11_15, e11_18, e11_19, e11_20, e11_21, e11_24, e11_26, e11_27, e11_28, e11_29, e11_30, e11_33, e11_35, e11_36, e11_37, e11_39, e11_40, e11_44, e11_45, e11_48, e11_51, e11_54, e11_56, e11_57, e11_59, e11_60, e11_63, e11_66, e11_67, e11_68, e11_69, e11_72, e11_73, e11_76, e11_77, e11_80, e11_81, e11_83, e11_84, e11_85, e11_86, e11_88, e11_91, e11_95, e11_96, e11_97, e11_98, e11_100, e11_101, e11_104, e11_107, zs0, zsI, zsL, zsR, ztl1, ztl0, zc0, zcI, zcL, zcR, true_and, and_true, true_implies, false_implies, implies_true, not_true_eq_false, not_false_eq_true, and_self, Int.toNat_natCast, Nat.reduceAdd, Nat.reduceLeDiff, Nat.reduceLT, forall_eq', Option.some.injEq, zarR, zarI, zarL, zle, zq0, zq1, zq2, zq3, zq4, zq5, zq6, zq8, zq9, zq10, zq20, zq7, zq12, zq24, zq40, zq41, zq48, zq100, zq120, zq123, zq480, zq492, zq700, zq729, zq2187, zq2916, zq8748, ne_eq, Int.reduceEq, Int.reduceLT, Int.reduceLE, Int.reduceToNat, Int.reduceMul, Int.reduceAdd, Int.reduceNeg, gk48 hg, gr48_0 hg, gr48_1 hg, gr48_2 hg, gr48_3 hg, gk49 hg, gr49_0 hg, gr49_1 hg, gr49_2 hg, gr49_3 hg, gr49_4 hg, gr49_5 hg, gr49_6 hg, gr49_7 hg, gr49_8 hg, gk57 hg, gl57 hg, g1, g2, c, s4, hx b 1 (by omega), w1, w2, w3, wr_s (show b < 2147483647 by omega)]
            exact hib
      have v6 : ((a0 + s : Nat) : Int) < (G.2.2.1 r : Int) := by omega
      have v3 : wr ((aCh T own oth s 0 3 : Nat) * 64) = (aCh T own oth s 0 3 : Nat) * 64 := wr_id (by omega)
      have v4 : wr ((aCh T own oth s 1 3 : Nat) * 256) = (aCh T own oth s 1 3 : Nat) * 256 := wr_id (by omega)
      have v5 : wr ((a0 : Int) + s) = ((a0 + s : Nat) : Int) := by
        rw [wr_id (by omega)]
        omega
      have i0 := inn (nB T) 0 (by omega)
      simp only [aPkU, zq0] at i0
      simp only [e11_0, e11_1, e11_3, e11_4, e11_7, e11_10, e11_13, e11_14, e11_15, e11_18, e11_19, e11_20, e11_21, e11_24, e11_26, e11_27, e11_28, e11_29, e11_30, e11_33, e11_35, e11_36, e11_37, e11_39, e11_40, e11_44, e11_45, e11_48, e11_51, e11_54, e11_56, e11_57, e11_59, e11_60, e11_63, e11_66, e11_67, e11_68, e11_69, e11_72, e11_73, e11_76, e11_77, e11_80, e11_81, e11_83, e11_84, e11_85, e11_86, e11_88, e11_91, e11_94, e11_95, e11_96, e11_97, e11_98, e11_100, e11_101, e11_104, e11_107, zs0, zsI, zsL, zsR, ztl1, ztl0, zc0, zcI, zcL, zcR, true_and, and_true, true_implies, false_implies, implies_true, not_true_eq_false, not_false_eq_true, and_self, Int.toNat_natCast, Nat.reduceAdd, Nat.reduceLeDiff, Nat.reduceLT, forall_eq', Option.some.injEq, zarR, zarI, zarL, zle, zq0, zq1, zq2, zq3, zq4, zq5, zq6, zq8, zq9, zq10, zq20, zq7, zq12, zq24, zq40, zq41, zq48, zq100, zq120, zq123, zq480, zq492, zq700, zq729, zq2187, zq2916, zq8748, ne_eq, Int.reduceEq, Int.reduceLT, Int.reduceLE, Int.reduceToNat, Int.reduceMul, Int.reduceAdd, Int.reduceNeg, gk48 hg, gr48_0 hg, gr48_1 hg, gr48_2 hg, gr48_3 hg, gk49 hg, gr49_0 hg, gr49_1 hg, gr49_2 hg, gr49_3 hg, gr49_4 hg, gr49_5 hg, gr49_6 hg, gr49_7 hg, gr49_8 hg, hx3, v3, v4, Int.reducePow]
      rw [i0]
      simp only [e11_0, e11_1, e11_3, e11_4, e11_7, e11_10, e11_13, e11_14, e11_15, e11_18, e11_19, e11_20, e11_21, e11_24, e11_26, e11_27, e11_28, e11_29, e11_30, e11_33, e11_35, e11_36, e11_37, e11_39, e11_40, e11_44, e11_45, e11_48, e11_51, e11_54, e11_56, e11_57, e11_59, e11_60, e11_63, e11_66, e11_67, e11_68, e11_69, e11_72, e11_73, e11_76, e11_77, e11_80, e11_81, e11_83, e11_84, e11_85, e11_86, e11_88, e11_91, e11_94, e11_95, e11_96, e11_97, e11_98, e11_100, e11_101, e11_104, e11_107, zs0, zsI, zsL, zsR, ztl1, ztl0, zc0, zcI, zcL, zcR, true_and, and_true, true_implies, false_implies, implies_true, not_true_eq_false, not_false_eq_true, and_self, Int.toNat_natCast, Nat.reduceAdd, Nat.reduceLeDiff, Nat.reduceLT, forall_eq', Option.some.injEq, zarR, zarI, zarL, zle, zq0, zq1, zq2, zq3, zq4, zq5, zq6, zq8, zq9, zq10, zq20, zq7, zq12, zq24, zq40, zq41, zq48, zq100, zq120, zq123, zq480, zq492, zq700, zq729, zq2187, zq2916, zq8748, ne_eq, Int.reduceEq, Int.reduceLT, Int.reduceLE, Int.reduceToNat, Int.reduceMul, Int.reduceAdd, Int.reduceNeg, hr1, v5, v6, wr_s (show s < 2147483647 by omega)]
      clear v3 v4 v5 v6 i0 hr3
      apply ih (s + 1) _ _ _ (by omega)
      · intro c i h5 h6 h7
        have h8 : ¬ (c = r ∧ i = a0 + s) := by omega
        unfold zu
        rw [if_neg h8, hf2 c i h5 h6]
        exact hf c i h5 h6 (by omega)
      · intro s' hs'
        by_cases h8 : s' = s
        · subst h8
          exact zu_at
        · rw [zu_i (by omega), hf2 r _ (by omega) (by omega)]
          exact hv s' (by omega)
  simp only [e11_0, e11_1, e11_3, e11_4, e11_7, e11_10, e11_13, e11_14, e11_15, e11_18, e11_19, e11_20, e11_21, e11_24, e11_26, e11_27, e11_28, e11_29, e11_30, e11_33, e11_35, e11_36, e11_37, e11_39, e11_40, e11_44, e11_45, e11_48, e11_51, e11_54, e11_56, e11_57, e11_59, e11_60, e11_63, e11_66, e11_67, e11_68, e11_69, e11_72, e11_73, e11_76, e11_77, e11_80, e11_81, e11_83, e11_84, e11_85, e11_86, e11_88, e11_91, e11_94, e11_95, e11_96, e11_97, e11_98, e11_100, e11_101, e11_104, e11_107, zs0, zsI, zsL, zsR, ztl1, ztl0, zc0, zcI, zcL, zcR, true_and, and_true, true_implies, false_implies, implies_true, not_true_eq_false, not_false_eq_true, and_self, Int.toNat_natCast, Nat.reduceAdd, Nat.reduceLeDiff, Nat.reduceLT, forall_eq', Option.some.injEq, zarR, zarI, zarL, zle, zq0, zq1, zq2, zq3, zq4, zq5, zq6, zq8, zq9, zq10, zq20, zq7, zq12, zq24, zq40, zq41, zq48, zq100, zq120, zq123, zq480, zq492, zq700, zq729, zq2187, zq2916, zq8748, ne_eq, Int.reduceEq, Int.reduceLT, Int.reduceLE, Int.reduceToNat, Int.reduceMul, Int.reduceAdd, Int.reduceNeg]
  apply lp (nS T) 0 h none none (by omega)
  · intro c i _ _ _
    rfl
  · intro s hs
    omega
end CA47
