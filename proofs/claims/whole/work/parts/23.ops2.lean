section OPS2
variable {n d : Nat} {Q : zQ} {pc : Nat} {lo : zLo} {st : List zV} {G : zG} {h : zM} {k : zK} {len a b : Nat} {z : Int} {x y i : Int} {r r1 r2 q : Nat}
theorem E_strlen2 {c : Nat} (hc : zRow n pc = some (.invokevirtual c, len, a, b, z)) (hz : z = 7) : zE n d Q pc lo (zT q :: st) G h k ↔ (zsum st ≤ 8 ∧ q < 16 ∧ zE n d Q (pc + len) lo (zI ((zstr.getD q []).length) :: st) G h k) := by
  constructor
  · intro H
    by_cases hs : zsum st ≤ 8
    · exact ⟨hs, (E_strlen hc hz hs).mp H⟩
    · rw [zE_iff] at H
      unfold zF at H
      rw [hc] at H
      dsimp only at H
      rw [if_neg (by omega), if_pos hz] at H
      obtain ⟨s', st', h1, h2, h3, -⟩ := H
      cases h1
      exact absurd h3 hs
  · rintro ⟨hs, H⟩
    exact (E_strlen hc hz hs).mpr H
theorem E_strat2 {c : Nat} (hc : zRow n pc = some (.invokevirtual c, len, a, b, z)) (hz : z = 8) : zE n d Q pc lo (zI i :: zT q :: st) G h k ↔ (zsum st ≤ 8 ∧ q < 16 ∧ (0 ≤ i ∧ i < (zstr.getD q []).length) ∧ zE n d Q (pc + len) lo (zI ((zstr.getD q []).getD i.toNat 0) :: st) G h k) := by
  constructor
  · intro H
    by_cases hs : zsum st ≤ 8
    · exact ⟨hs, (E_strat hc hz hs).mp H⟩
    · rw [zE_iff] at H
      unfold zF at H
      rw [hc] at H
      dsimp only at H
      rw [if_neg (by omega), if_neg (by omega), if_pos hz] at H
      obtain ⟨s', i', st', h1, h2, h3, -⟩ := H
      cases h1
      exact absurd h3 hs
  · rintro ⟨hs, H⟩
    exact (E_strat hc hz hs).mpr H
theorem E_copy2 {c : Nat} (hc : zRow n pc = some (.invokestatic c, len, a, b, z)) (hz : z = 5) (hb : b = 10 ∨ b = 11) : zE n d Q pc lo (zI i :: zI y :: zR (some r2) :: zI x :: zR (some r1) :: st) G h k ↔ (zsum st ≤ 8 ∧ G.2.1 r1 = b ∧ G.2.1 r2 = b ∧ 0 ≤ x ∧ 0 ≤ y ∧ 0 ≤ i ∧ x + i ≤ G.2.2.1 r1 ∧ y + i ≤ G.2.2.1 r2 ∧ zE n d Q (pc + len) lo (st) G (zcp h r1 x.toNat r2 y.toNat i.toNat) k) := by
  constructor
  · intro H
    by_cases hs : zsum st ≤ 8
    · exact ⟨hs, (E_copy hc hz hb hs).mp H⟩
    · rw [zE_iff] at H
      unfold zF at H
      rw [hc] at H
      dsimp only at H
      rw [if_pos hz] at H
      obtain ⟨n9, d9, a9, s9, b9, t9, h1, h2, -⟩ := H
      cases h1
      exact absurd h2 hs
  · rintro ⟨hs, H⟩
    exact (E_copy hc hz hb hs).mpr H
theorem E_invI2b {c : Nat} {As st9 : List zV} (hc : zRow n pc = some (.invokespecial c, len, a, b, z)) (hz : ¬ z = 9) (hp : zpop b [] st9 = some (As, zR (some r) :: st)) : zE n d Q pc lo st9 G h k ↔ (zsum st ≤ 8 ∧ G.2.1 r = ztb.2.2.2 a ∧ k.1 + (ztb.2.2.1 a).1 ≤ (zBud n).1 ∧ k.2 + (ztb.2.2.1 a).2 ≤ (zBud n).2 ∧ zRunD ztb zmt' d a (zR (some r) :: As) G h (fun v G' h' => v = none ∧ zE n d Q (pc + len) lo st G' h' (k.1 + (ztb.2.2.1 a).1, k.2 + (ztb.2.2.1 a).2))) := by
  constructor
  · intro H
    by_cases hs : zsum st ≤ 8
    · exact ⟨hs, (E_invI hc hz hp hs).mp H⟩
    · rw [zE_iff] at H
      unfold zF at H
      rw [hc] at H
      dsimp only at H
      rw [if_neg hz] at H
      obtain ⟨A9, r9, s9, h1, h2, -⟩ := H
      rw [hp] at h1
      cases h1
      exact absurd h2 hs
  · rintro ⟨hs, H⟩
    exact (E_invI hc hz hp hs).mpr H
theorem E_invV2b {c : Nat} {As st9 : List zV} (hc : zRow n pc = some (.invokevirtual c, len, a, b, z)) (hz : ¬ z = 6 ∧ ¬ z = 7 ∧ ¬ z = 8) (hp : zpop b [] st9 = some (As, zR (some r) :: st)) : zE n d Q pc lo st9 G h k ↔ (zsum st ≤ 8 ∧ G.2.1 r = ztb.2.2.2 a ∧ k.1 + (ztb.2.2.1 a).1 ≤ (zBud n).1 ∧ k.2 + (ztb.2.2.1 a).2 ≤ (zBud n).2 ∧ zRunD ztb zmt' d a (zR (some r) :: As) G h (fun v G' h' => zE n d Q (pc + len) lo (v.toList ++ st) G' h' (k.1 + (ztb.2.2.1 a).1, k.2 + (ztb.2.2.1 a).2))) := by
  constructor
  · intro H
    by_cases hs : zsum st ≤ 8
    · exact ⟨hs, (E_invV hc hz hp hs).mp H⟩
    · rw [zE_iff] at H
      unfold zF at H
      rw [hc] at H
      dsimp only at H
      rw [if_neg hz.1, if_neg hz.2.1, if_neg hz.2.2] at H
      obtain ⟨A9, r9, s9, h1, h2, -⟩ := H
      rw [hp] at h1
      cases h1
      exact absurd h2 hs
  · rintro ⟨hs, H⟩
    exact (E_invV hc hz hp hs).mpr H
theorem E_invS2b {c : Nat} {As st9 : List zV} (hc : zRow n pc = some (.invokestatic c, len, a, b, z)) (hz : ¬ z = 5) (hp : zpop b [] st9 = some (As, st)) : zE n d Q pc lo st9 G h k ↔ (zsum st ≤ 8 ∧ k.1 + (ztb.2.2.1 a).1 ≤ (zBud n).1 ∧ k.2 + (ztb.2.2.1 a).2 ≤ (zBud n).2 ∧ zRunD ztb zmt' d a As G h (fun v G' h' => zE n d Q (pc + len) lo (v.toList ++ st) G' h' (k.1 + (ztb.2.2.1 a).1, k.2 + (ztb.2.2.1 a).2))) := by
  constructor
  · intro H
    by_cases hs : zsum st ≤ 8
    · exact ⟨hs, (E_invS hc hz hp hs).mp H⟩
    · rw [zE_iff] at H
      unfold zF at H
      rw [hc] at H
      dsimp only at H
      rw [if_neg hz] at H
      obtain ⟨A9, s9, h1, h2, -⟩ := H
      rw [hp] at h1
      cases h1
      exact absurd h2 hs
  · rintro ⟨hs, H⟩
    exact (E_invS hc hz hp hs).mpr H
theorem E_invI2z {c : Nat} {As st9 : List zV} (hc : zRow n pc = some (.invokespecial c, len, a, b, z)) (hz : ¬ z = 9) (hp : zpop b [] st9 = some (As, zR (some r) :: st)) (hb : zBud n = (0, 0)) (ha : ztb.2.2.1 a = (0, 0)) : zE n d Q pc lo st9 G h (0, 0) ↔ (zsum st ≤ 8 ∧ G.2.1 r = ztb.2.2.2 a ∧ zRunD ztb zmt' d a (zR (some r) :: As) G h (fun v G' h' => v = none ∧ zE n d Q (pc + len) lo st G' h' (0, 0))) := by
  rw [E_invI2b hc hz hp, hb, ha]
  simp only [Nat.add_zero, Nat.le_refl, true_and]
theorem E_invV2z {c : Nat} {As st9 : List zV} (hc : zRow n pc = some (.invokevirtual c, len, a, b, z)) (hz : ¬ z = 6 ∧ ¬ z = 7 ∧ ¬ z = 8) (hp : zpop b [] st9 = some (As, zR (some r) :: st)) (hb : zBud n = (0, 0)) (ha : ztb.2.2.1 a = (0, 0)) : zE n d Q pc lo st9 G h (0, 0) ↔ (zsum st ≤ 8 ∧ G.2.1 r = ztb.2.2.2 a ∧ zRunD ztb zmt' d a (zR (some r) :: As) G h (fun v G' h' => zE n d Q (pc + len) lo (v.toList ++ st) G' h' (0, 0))) := by
  rw [E_invV2b hc hz hp, hb, ha]
  simp only [Nat.add_zero, Nat.le_refl, true_and]
theorem E_invS2z {c : Nat} {As st9 : List zV} (hc : zRow n pc = some (.invokestatic c, len, a, b, z)) (hz : ¬ z = 5) (hp : zpop b [] st9 = some (As, st)) (hb : zBud n = (0, 0)) (ha : ztb.2.2.1 a = (0, 0)) : zE n d Q pc lo st9 G h (0, 0) ↔ (zsum st ≤ 8 ∧ zRunD ztb zmt' d a As G h (fun v G' h' => zE n d Q (pc + len) lo (v.toList ++ st) G' h' (0, 0))) := by
  rw [E_invS2b hc hz hp, hb, ha]
  simp only [Nat.add_zero, Nat.le_refl, true_and]
end OPS2
