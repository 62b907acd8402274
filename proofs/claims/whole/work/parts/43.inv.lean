/-! the town as the other side keeps it -/
def rT (h : zM) (u : Nat) (T : aTn) : Prop := h u 0 = (nB T : Int) ∧ h u 1 = (nS T : Int) ∧ h u 2 = (nP T : Int) ∧ h u 3 = kp T ∧ h u 5 = tw T ∧ (∀ i, i < nB T → h (u + 1) i = tr T 0 i) ∧ (∀ i, i < nB T → h (u + 2) i = tr T 1 i) ∧ (∀ i, i < nB T → h (u + 3) i = tr T 2 i) ∧ (∀ i, i < nP T → h (u + 4) i = tr T 8 i) ∧ (∀ i, i < nS T → h (u + 5) i = tr T 3 i) ∧ (∀ i, i < nS T → h (u + 6) i = tr T 4 i) ∧ (∀ i, i < nS T → h (u + 7) i = tr T 5 i) ∧ (∀ i, i < nS T → h (u + 8) i = tr T 6 i) ∧ (∀ i, i < nS T → h (u + 9) i = tr T 7 i)
theorem rT_frame {h h' : zM} {u : Nat} {T : aTn} (hk : rT h u T) (h1 : ∀ c i, u ≤ c → h' c i = h c i) : rT h' u T := by
  unfold rT at hk ⊢
  simp only [h1 u _ (Nat.le_refl u), h1 (u + 1) _ (Nat.le_add_right u _), h1 (u + 2) _ (Nat.le_add_right u _), h1 (u + 3) _ (Nat.le_add_right u _), h1 (u + 4) _ (Nat.le_add_right u _), h1 (u + 5) _ (Nat.le_add_right u _), h1 (u + 6) _ (Nat.le_add_right u _), h1 (u + 7) _ (Nat.le_add_right u _), h1 (u + 8) _ (Nat.le_add_right u _), h1 (u + 9) _ (Nat.le_add_right u _)]
  exact hk
/-- the tape -/
def I1 (g h : zM) : Prop := ∃ n : Nat, g 0 1 = (n : Int) ∧ h 91 6 = (n : Int) ∧ n ≤ 700 ∧ ∀ i, i < n → g 1 i = h 92 i ∧ -128 ≤ g 1 i ∧ g 1 i ≤ 127
/-- trouble, fault, where -/
def I2 (g h : zM) : Prop := h 91 1 = g 0 11 ∧ h 91 13 = g 0 12 ∧ h 91 2 = (if g 0 11 = 4 then g 0 13 else -1)
/-- the years: g the one side's, h the other's -/
def I4 (T : aTn) (Y : Nat) (g h : zM) : Prop := (Y ≤ 40 ∧ g 38 0 = (Y : Int) ∧ h 91 31 = (Y : Int)) ∧ (g 42 Y = h 91 30 ∧ (∀ y, y < Y → g 42 y = h 107 y) ∧ (∀ y, y ≤ Y → 0 ≤ g 42 y ∧ g 42 y ≤ 65536))
  ∧ ((∀ b, b < 3 → g 40 (Y * 3 + b) = h 102 b ∧ g 41 (Y * 3 + b) = h 103 b) ∧ (∀ y b, y < Y → b < 3 → g 40 (y * 3 + b) = h 105 (3 * y + b) ∧ g 41 (y * 3 + b) = h 106 (3 * y + b)) ∧ (∀ y b, y ≤ Y → b < 3 → (0 ≤ g 40 (y * 3 + b) ∧ g 40 (y * 3 + b) < nP T) ∧ (0 ≤ g 41 (y * 3 + b) ∧ g 41 (y * 3 + b) < nP T) ∧ (tw T = 0 → g 41 (y * 3 + b) = g 40 (y * 3 + b))))
  ∧ ((∀ s b, s < nS T → b < nB T → g 39 (Y * 12 + b * 4 + s) = h 101 (3 * s + b)) ∧ (∀ y s b, y < Y → s < nS T → b < nB T → g 39 (y * 12 + b * 4 + s) = h 104 (12 * y + (3 * s + b))) ∧ (∀ y s, y ≤ Y → s < nS T → (∀ b, b < 3 → 0 ≤ g 39 (y * 12 + b * 4 + s)) ∧ max (g 39 (y * 12 + 0 * 4 + s) - 9999) 0 + max (g 39 (y * 12 + 1 * 4 + s) - 9999) 0 + max (g 39 (y * 12 + 2 * 4 + s) - 9999) 0 ≤ 30100 * (y : Int) ∧ (nB T = 2 → g 39 (y * 12 + 2 * 4 + s) = 0)))
  ∧ ((∀ y b, y < Y → b < 3 → g 43 (y * 3 + b) = h 108 (3 * y + b)) ∧ (∀ y, y < Y → g 44 y = h 109 y ∧ 0 ≤ g 44 y))
/-- the latest rest -/
def I5 (T : aTn) (g h : zM) : Prop := (g 87 0 = 0 ∨ g 87 0 = 1) ∧ h 91 47 = g 87 0 ∧ (g 87 0 = 1 → ∀ b, b < nB T → g 88 b = h 115 b ∧ g 89 b = h 116 b ∧ g 90 b = h 117 b ∧ (0 ≤ g 88 b ∧ g 88 b < nP T) ∧ (0 ≤ g 89 b ∧ g 89 b < nP T))
def I0 (G : zG) (g h : zM) : Prop := G.2.2.2 91 3 = none ∧ g 18 9 = 0 ∧ g 18 10 = 0 ∧ g 18 11 = 0 ∧ g 18 12 = 0 ∧ g 18 13 = 0 ∧ g 38 0 = 0 ∧ h 91 31 = 0 ∧ g 42 0 = 0 ∧ h 91 30 = 0
def IT (G : zG) (u : Nat) (T : aTn) (Y : Nat) (g h : zM) : Prop := gU G u ∧ u + 11 ≤ G.1 ∧ wT T ∧ kT g 18 T ∧ rT h u T ∧ I4 T Y g h ∧ I5 T g h
def INV (G : zG) (h : zM) : Prop := gS G ∧ I1 h h ∧ I2 h h ∧ (I0 G h h ∨ ∃ u T Y, IT G u T Y h h)
/-- the cells that count -/
def core (c i : Nat) : Prop := c = 0 ∧ i = 1 ∨ c = 1 ∨ 18 ≤ c ∧ c ≤ 27 ∨ 38 ≤ c ∧ c ≤ 44 ∨ 87 ≤ c ∧ c ≤ 90 ∨ c = 91 ∧ (i = 6 ∨ i = 30 ∨ i = 31 ∨ i = 47) ∨ c = 92 ∨ c = 101 ∧ i < 12 ∨ 102 ≤ c ∧ c ≤ 109 ∨ 115 ≤ c ∧ c ≤ 117 ∨ 121 ≤ c
theorem I1_fr {g h g' h' : zM} (hI : I1 g h) (h1 : g' 0 1 = g 0 1) (h2 : ∀ i, g' 1 i = g 1 i) (h3 : h' 91 6 = h 91 6) (h4 : ∀ i, h' 92 i = h 92 i) : I1 g' h' := by
  unfold I1 at hI ⊢
  simp only [h1, h2, h3, h4]
  exact hI
theorem I4_fr {T : aTn} (hw : wT T) {Y : Nat} {g h g' h' : zM} (hI : I4 T Y g h) (h1 : ∀ c i, 38 ≤ c → c ≤ 44 → g' c i = g c i) (h2 : h' 91 30 = h 91 30) (h3 : h' 91 31 = h 91 31) (h4 : ∀ i, i < 12 → h' 101 i = h 101 i) (h5 : ∀ c i, 102 ≤ c → c ≤ 109 → h' c i = h c i) : I4 T Y g' h' := by
  have hs := hw.2.1
  have hb := hw.1
  have h6 : ∀ s b, s < nS T → b < nB T → h' 101 (3 * s + b) = h 101 (3 * s + b) := fun s b q1 q2 => h4 _ (by omega)
  unfold I4 at hI ⊢
  obtain ⟨a1, a2, a3, ⟨a4, a5, a6⟩, a7⟩ := hI
  simp only [h1 38 _ (by decide) (by decide), h1 39 _ (by decide) (by decide), h1 40 _ (by decide) (by decide), h1 41 _ (by decide) (by decide), h1 42 _ (by decide) (by decide), h1 43 _ (by decide) (by decide), h1 44 _ (by decide) (by decide), h2, h3, h5 102 _ (by decide) (by decide), h5 103 _ (by decide) (by decide), h5 104 _ (by decide) (by decide), h5 105 _ (by decide) (by decide), h5 106 _ (by decide) (by decide), h5 107 _ (by decide) (by decide), h5 108 _ (by decide) (by decide), h5 109 _ (by decide) (by decide)]
  refine ⟨a1, a2, a3, ⟨?_, a5, a6⟩, a7⟩
  intro s b q1 q2
  rw [h6 s b q1 q2]
  exact a4 s b q1 q2
theorem I5_fr {T : aTn} {g h g' h' : zM} (hI : I5 T g h) (h1 : ∀ c i, 87 ≤ c → c ≤ 90 → g' c i = g c i) (h2 : h' 91 47 = h 91 47) (h5 : ∀ c i, 115 ≤ c → c ≤ 117 → h' c i = h c i) : I5 T g' h' := by
  unfold I5 at hI ⊢
  simp only [h1 87 _ (by decide) (by decide), h1 88 _ (by decide) (by decide), h1 89 _ (by decide) (by decide), h1 90 _ (by decide) (by decide), h2, h5 115 _ (by decide) (by decide), h5 116 _ (by decide) (by decide), h5 117 _ (by decide) (by decide)]
  exact hI
theorem IT_fr {G : zG} {u : Nat} {T : aTn} {Y : Nat} {g h g' h' : zM} (hI : IT G u T Y g h) (h1 : ∀ c i, core c i → g' c i = g c i) (h2 : ∀ c i, core c i → h' c i = h c i) : IT G u T Y g' h' := by
  obtain ⟨a1, a2, a3, a4, a5, a6, a7⟩ := hI
  have hu : 121 ≤ u := a1.1
  refine ⟨a1, a2, a3, kT_frame a4 ?_, rT_frame a5 ?_, I4_fr a3 a6 ?_ ?_ ?_ ?_ ?_, I5_fr a7 ?_ ?_ ?_⟩
  · intro c i q1 q2
    exact h1 c i (by unfold core; omega)
  · intro c i q1
    exact h2 c i (by unfold core; omega)
  · intro c i q1 q2
    exact h1 c i (by unfold core; omega)
  · exact h2 _ _ (by unfold core; omega)
  · exact h2 _ _ (by unfold core; omega)
  · intro i q1
    exact h2 _ _ (by unfold core; omega)
  · intro c i q1 q2
    exact h2 c i (by unfold core; omega)
  · intro c i q1 q2
    exact h1 c i (by unfold core; omega)
  · exact h2 _ _ (by unfold core; omega)
  · intro c i q1 q2
    exact h2 c i (by unfold core; omega)
theorem I0_fr {G : zG} {g h g' h' : zM} (hI : I0 G g h) (h1 : ∀ c i, core c i → g' c i = g c i) (h2 : ∀ c i, core c i → h' c i = h c i) : I0 G g' h' := by
  unfold I0 at hI ⊢
  rw [h1 18 9 (by unfold core; omega), h1 18 10 (by unfold core; omega), h1 18 11 (by unfold core; omega), h1 18 12 (by unfold core; omega), h1 18 13 (by unfold core; omega), h1 38 0 (by unfold core; omega), h1 42 0 (by unfold core; omega), h2 91 31 (by unfold core; omega), h2 91 30 (by unfold core; omega)]
  exact hI
theorem INV_fr {G : zG} {h h' : zM} (hI : INV G h) (h1 : ∀ c i, core c i → h' c i = h c i) (h2 : I2 h' h') : INV G h' := by
  obtain ⟨a1, a2, a3, a4⟩ := hI
  refine ⟨a1, I1_fr a2 ?_ ?_ ?_ ?_, h2, ?_⟩
  · exact h1 _ _ (by unfold core; omega)
  · intro i
    exact h1 _ _ (by unfold core; omega)
  · exact h1 _ _ (by unfold core; omega)
  · intro i
    exact h1 _ _ (by unfold core; omega)
  · rcases a4 with a4 | ⟨u, T, Y, a4⟩
    · exact Or.inl (I0_fr a4 h1 h1)
    · exact Or.inr ⟨u, T, Y, IT_fr a4 h1 h1⟩
theorem INV_gK {G : zG} {h : zM} (hI : INV G h) : gK G := by
  intro u hu
  rcases hI.2.2.2 with a | ⟨u', T, Y, a⟩
  · have h2 := a.1
    rw [hu] at h2
    cases h2
  · have h2 := a.1.2.1
    rw [hu] at h2
    cases h2
    exact ⟨a.1.1, a.1.2.2.1⟩
/-! calls that only ask: what they leave as it was -/
def cfr (h h' : zM) : Prop := ∀ c i, (91 ≤ c ∨ core c i ∨ c = 0 ∧ 12 ≤ i) → h' c i = h c i
def mfr (h h' : zM) : Prop := ∀ c i, (c < 91 ∨ core c i ∨ c = 91 ∧ i = 13) → h' c i = h c i
theorem cfr.rf {h : zM} : cfr h h := fun _ _ _ => rfl
theorem cfr.tr {h h1 h2 : zM} (a : cfr h h1) (b : cfr h1 h2) : cfr h h2 := fun c i q => (b c i q).trans (a c i q)
theorem mfr.rf {h : zM} : mfr h h := fun _ _ _ => rfl
theorem mfr.tr {h h1 h2 : zM} (a : mfr h h1) (b : mfr h1 h2) : mfr h h2 := fun c i q => (b c i q).trans (a c i q)
theorem cfr.z {h : zM} {v : Int} : cfr h (zu h 0 11 v) := fun c i q => by
  unfold core at q
  unfold zu
  rw [if_neg (by omega)]
theorem mfr.z {h : zM} {j : Nat} {v : Int} (hj : j < 6 ∨ 7 ≤ j ∧ j ≤ 12 ∨ 14 ≤ j ∧ j ≤ 21 ∨ j = 43) : mfr h (zu h 91 j v) := fun c i q => by
  unfold core at q
  unfold zu
  rw [if_neg (by omega)]
def cQ (d n : Nat) (As : List zV) (G : zG) (h : zM) (v : zV) (tr : Int) : Prop := ∀ Q : zQ, (∀ h', cfr h h' → h' 0 11 = tr → Q (some v) G h') → zRunD ztb zmt' (d + 16) n (zR (some 0) :: As) G h Q
def mQ (d n : Nat) (As : List zV) (G : zG) (h : zM) (v : zV) (tr : Int) : Prop := ∀ Q : zQ, (∀ h', mfr h h' → h' 91 1 = tr → h' 91 2 = -1 → Q (some v) G h') → zRunD ztb zmt' (d + 16) n (zR (some 91) :: As) G h Q
/-- a call on both: the same answer, and what holds between them holds on -/
def PR (k : Int → zV) (d n m : Nat) (As : List zV) (G : zG) (h : zM) : Prop := zRunD ztb zmt' (d + 16) n (zR (some 0) :: As) G h (fun v G1 h1 => G1 = G ∧ ∃ z, v = some (k z) ∧ zRunD ztb zmt' (d + 16) m (zR (some 91) :: As) G h1 (fun v' G2 h2 => v' = some (k z) ∧ INV G2 h2))
theorem PR_q {k : Int → zV} {d n m : Nat} {As : List zV} {G : zG} {h : zM} {z tr : Int} (hI : INV G h) (ht : ¬ tr = 4) (hc : cQ d n As G h (k z) tr) (hm : ∀ h1, cfr h h1 → mQ d m As G h1 (k z) tr) : PR k d n m As G h := by
  apply hc
  intro h1 f1 t1
  refine ⟨rfl, z, rfl, ?_⟩
  apply hm h1 f1
  intro h2 f2 t2 t3
  refine ⟨rfl, INV_fr hI ?_ ?_⟩
  · intro c i q
    rw [f2 c i (Or.inr (Or.inl q)), f1 c i (Or.inr (Or.inl q))]
  · have a3 := hI.2.2.1
    refine ⟨?_, ?_, ?_⟩
    · rw [t2, f2 0 11 (by omega), t1]
    · rw [f2 91 13 (by omega), f2 0 12 (by omega), f1 91 13 (by omega), f1 0 12 (by omega)]
      exact a3.2.1
    · rw [t3, f2 0 11 (by omega), t1, if_neg ht]
