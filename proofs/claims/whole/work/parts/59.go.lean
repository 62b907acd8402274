section GO2
variable {d : Nat} {Q : zQ} {G : zG} {h : zM} {T : aTn} {own oth : Nat → Int} {Y u : Nat} {p : (Nat → Nat → Int) × Int} {B : Int}
/-- the one side, k years on from h -/
def CY (T : aTn) (own oth : Nat → Int) (p : (Nat → Nat → Int) × Int) (Y : Nat) (h h' : zM) (k : Nat) : Prop := (∀ c i, ¬ (c = 38 ∧ i = 0) → c < 39 ∨ 44 < c → c < 31 ∨ 37 < c → h' c i = h c i) ∧ h' 38 0 = ((Y + k : Nat) : Int) ∧ (∀ i, i < (Y + 1) * 12 → h' 39 i = h 39 i) ∧ (∀ j s b, j < k → s < nS T → b < 3 → h' 39 ((Y + (j + 1)) * 12 + b * 4 + s) = (yS T own oth p (j + 1)).1 s b) ∧ (∀ i, i < (Y + 1) * 3 → h' 40 i = h 40 i ∧ h' 41 i = h 41 i) ∧ (∀ j b, j ≤ k → b < 3 → h' 40 ((Y + j) * 3 + b) = h 40 (Y * 3 + b) ∧ h' 41 ((Y + j) * 3 + b) = h 41 (Y * 3 + b)) ∧ (∀ i, i < Y + 1 → h' 42 i = h 42 i) ∧ (∀ j, j < k → h' 42 (Y + (j + 1)) = (yS T own oth p (j + 1)).2) ∧ (∀ i, i < Y * 3 → h' 43 i = h 43 i) ∧ (∀ j b, j < k → b < 3 → h' 43 ((Y + j) * 3 + b) = yE T own oth (yS T own oth p j) b) ∧ (∀ i, i < Y → h' 44 i = h 44 i) ∧ (∀ j, j < k → h' 44 (Y + j) = yL T own oth (yS T own oth p j))
def MY (T : aTn) (own oth : Nat → Int) (p : (Nat → Nat → Int) × Int) (Y : Nat) (h h' : zM) (k : Nat) : Prop := (∀ c i, ¬ (c = 91 ∧ i = 30) → ¬ (c = 91 ∧ i = 31) → c < 96 ∨ 101 < c → c < 104 ∨ 109 < c → h' c i = h c i) ∧ (∀ s b, s < nS T → b < nB T → h' 101 (3 * s + b) = (yS T own oth p k).1 s b) ∧ (∀ i, i < 12 * Y → h' 104 i = h 104 i) ∧ (∀ j s b, j < k → s < nS T → b < nB T → h' 104 (12 * (Y + j) + (3 * s + b)) = (yS T own oth p j).1 s b) ∧ (∀ i, i < 3 * Y → h' 105 i = h 105 i ∧ h' 106 i = h 106 i) ∧ (∀ j b, j < k → b < 3 → h' 105 (3 * (Y + j) + b) = h 102 b ∧ h' 106 (3 * (Y + j) + b) = h 103 b) ∧ (∀ i, i < Y → h' 107 i = h 107 i) ∧ (∀ j, j < k → h' 107 (Y + j) = (yS T own oth p j).2) ∧ h' 91 30 = (yS T own oth p k).2 ∧ h' 91 31 = ((Y + k : Nat) : Int) ∧ (∀ i, i < 3 * Y → h' 108 i = h 108 i) ∧ (∀ j b, j < k → b < 3 → h' 108 (3 * (Y + j) + b) = yE T own oth (yS T own oth p j) b) ∧ (∀ i, i < Y → h' 109 i = h 109 i) ∧ (∀ j, j < k → h' 109 (Y + j) = yL T own oth (yS T own oth p j))
def yT (T : aTn) (own oth : Nat → Int) (p : (Nat → Nat → Int) × Int) (k : Nat) : Int := sumL (fun j => yL T own oth (yS T own oth p j)) k
theorem yT_b (hw : wT T) (hp : pOk T p B) (h4 : -100 ≤ B) (k : Nat) (hk : B + 100 * (k : Int) ≤ 2000000) : 0 ≤ yT T own oth p k ∧ yT T own oth p k ≤ 40000000 * (k : Int) := by
  unfold yT
  induction k with
  | zero => unfold sumL; omega
  | succ k ih =>
    have h1 := ih (by omega)
    have h2 := yN_ok hw (yS_ok (own := own) (oth := oth) hw hp h4 k (by omega)) (by omega)
    have h3 := yL_b (own := own) (oth := oth) hw h2 (nS T)
    have h5 := hw.2.1
    have h6 : yL T own oth (yS T own oth p k) = sumL (fun s => aLeft (yN T (yS T own oth p k)) (aTo T own oth) s 5) (nS T) := rfl
    unfold sumL
    omega
theorem CY_step (hY : Y ≤ 40) {h1 h2 : zM} {k : Nat} (a : CY T own oth p Y h h1 k) (k0 : ∀ c i, ¬ (c = 38 ∧ i = 0) → c < 39 ∨ 44 < c → c < 31 ∨ 37 < c → h2 c i = h1 c i) (k1 : h2 38 0 = ((Y + k + 1 : Nat) : Int)) (k2 : ∀ i, i < (Y + k + 1) * 12 → h2 39 i = h1 39 i) (k3 : ∀ s b, s < nS T → b < 3 → h2 39 ((Y + k + 1) * 12 + b * 4 + s) = (yS T own oth p (k + 1)).1 s b) (k4 : ∀ i, i < (Y + k + 1) * 3 → h2 40 i = h1 40 i ∧ h2 41 i = h1 41 i) (k5 : ∀ b, b < 3 → h2 40 ((Y + k + 1) * 3 + b) = h1 40 ((Y + k) * 3 + b) ∧ h2 41 ((Y + k + 1) * 3 + b) = h1 41 ((Y + k) * 3 + b)) (k6 : ∀ i, ¬ i = Y + k + 1 → h2 42 i = h1 42 i) (k7 : h2 42 (Y + k + 1) = (yS T own oth p (k + 1)).2) (k8 : ∀ i, i < (Y + k) * 3 → h2 43 i = h1 43 i) (k9 : ∀ b, b < 3 → h2 43 ((Y + k) * 3 + b) = yE T own oth (yS T own oth p k) b) (k10 : ∀ i, ¬ i = Y + k → h2 44 i = h1 44 i) (k11 : h2 44 (Y + k) = yL T own oth (yS T own oth p k)) (hs : nS T ≤ 4) : CY T own oth p Y h h2 (k + 1) := by
  obtain ⟨a0, a1, a2, a3, a4, a5, a6, a7, a8, a9, a10, a11⟩ := a
  refine ⟨?_, ?_, ?_, ?_, ?_, ?_, ?_, ?_, ?_, ?_, ?_, ?_⟩
  · intro c i q1 q2 q3
    rw [k0 c i q1 q2 q3, a0 c i q1 q2 q3]
  · rw [k1]; rfl
  · intro i hi
    rw [k2 i (by omega), a2 i hi]
  · intro j s b q1 q2 q3
    by_cases q : j = k
    · subst q
      exact k3 s b q2 q3
    · rw [k2 _ (by omega)]
      exact a3 j s b (by omega) q2 q3
  · intro i hi
    rw [(k4 i (by omega)).1, (k4 i (by omega)).2]
    exact a4 i hi
  · intro j b q1 q2
    by_cases q : j = k + 1
    · subst q
      have e := k5 b q2
      have e2 := a5 k b (Nat.le_refl _) q2
      exact ⟨e.1.trans e2.1, e.2.trans e2.2⟩
    · have e := k4 ((Y + j) * 3 + b) (by omega)
      have e2 := a5 j b (by omega) q2
      exact ⟨e.1.trans e2.1, e.2.trans e2.2⟩
  · intro i hi
    rw [k6 i (by omega), a6 i hi]
  · intro j q1
    by_cases q : j = k
    · subst q
      exact k7
    · rw [k6 _ (by omega)]
      exact a7 j (by omega)
  · intro i hi
    rw [k8 i (by omega), a8 i hi]
  · intro j b q1 q2
    by_cases q : j = k
    · subst q
      exact k9 b q2
    · rw [k8 _ (by omega)]
      exact a9 j b (by omega) q2
  · intro i hi
    rw [k10 i (by omega), a10 i hi]
  · intro j q1
    by_cases q : j = k
    · subst q
      exact k11
    · rw [k10 _ (by omega)]
      exact a11 j (by omega)
theorem MY_step (hs : nS T ≤ 4) (hb : nB T ≤ 3) {h1 h2 : zM} {k : Nat} (a : MY T own oth p Y h h1 k) (k0 : ∀ c i, ¬ (c = 91 ∧ i = 30) → ¬ (c = 91 ∧ i = 31) → c < 96 ∨ 101 < c → c < 104 ∨ 109 < c → h2 c i = h1 c i) (k1 : ∀ s b, s < nS T → b < 3 → h2 101 (3 * s + b) = (yS T own oth p (k + 1)).1 s b) (k2 : ∀ i, i < 12 * (Y + k) → h2 104 i = h1 104 i) (k3 : ∀ i, i < 12 → h2 104 (12 * (Y + k) + i) = h1 101 i) (k4 : ∀ i, i < 3 * (Y + k) → h2 105 i = h1 105 i ∧ h2 106 i = h1 106 i) (k5 : ∀ b, b < 3 → h2 105 (3 * (Y + k) + b) = h1 102 b ∧ h2 106 (3 * (Y + k) + b) = h1 103 b) (k6 : ∀ i, ¬ i = Y + k → h2 107 i = h1 107 i) (k7 : h2 107 (Y + k) = (yS T own oth p k).2) (k8 : h2 91 30 = (yS T own oth p (k + 1)).2) (k9 : h2 91 31 = ((Y + k + 1 : Nat) : Int)) (k10 : ∀ i, i < 3 * (Y + k) → h2 108 i = h1 108 i) (k11 : ∀ b, b < 3 → h2 108 (3 * (Y + k) + b) = yE T own oth (yS T own oth p k) b) (k12 : ∀ i, ¬ i = Y + k → h2 109 i = h1 109 i) (k13 : h2 109 (Y + k) = yL T own oth (yS T own oth p k)) : MY T own oth p Y h h2 (k + 1) := by
  obtain ⟨a0, a1, a2, a3, a4, a5, a6, a7, a8, a9, a10, a11, a12, a13⟩ := a
  refine ⟨?_, ?_, ?_, ?_, ?_, ?_, ?_, ?_, k8, ?_, ?_, ?_, ?_, ?_⟩
  · intro c i q1 q2 q3 q4
    rw [k0 c i q1 q2 q3 q4, a0 c i q1 q2 q3 q4]
  · intro s b q1 q2
    exact k1 s b q1 (by omega)
  · intro i hi
    rw [k2 i (by omega), a2 i hi]
  · intro j s b q1 q2 q3
    by_cases q : j = k
    · subst q
      rw [k3 _ (by omega)]
      exact a1 s b q2 q3
    · rw [k2 _ (by omega)]
      exact a3 j s b (by omega) q2 q3
  · intro i hi
    rw [(k4 i (by omega)).1, (k4 i (by omega)).2]
    exact a4 i hi
  · intro j b q1 q2
    by_cases q : j = k
    · subst q
      have e := k5 b q2
      rw [a0 102 b (by omega) (by omega) (by omega) (by omega), a0 103 b (by omega) (by omega) (by omega) (by omega)] at e
      exact e
    · have e := k4 (3 * (Y + j) + b) (by omega)
      have e2 := a5 j b (by omega) q2
      exact ⟨e.1.trans e2.1, e.2.trans e2.2⟩
  · intro i hi
    rw [k6 i (by omega), a6 i hi]
  · intro j q1
    by_cases q : j = k
    · subst q
      exact k7
    · rw [k6 _ (by omega)]
      exact a7 j (by omega)
  · rw [k9]; rfl
  · intro i hi
    rw [k10 i (by omega), a10 i hi]
  · intro j b q1 q2
    by_cases q : j = k
    · subst q
      exact k11 b q2
    · rw [k10 _ (by omega)]
      exact a11 j b (by omega) q2
  · intro i hi
    rw [k12 i (by omega), a12 i hi]
  · intro j q1
    by_cases q : j = k
    · subst q
      exact k13
    · rw [k12 _ (by omega)]
      exact a13 j (by omega)
end GO2
