/-- a call on both that may make new records -/
def PRw (k : Int → zV) (d n m : Nat) (As : List zV) (G : zG) (h : zM) : Prop := zRunD ztb zmt' (d + 16) n (zR (some 0) :: As) G h (fun v G1 h1 => ∃ z, v = some (k z) ∧ G1.2.1 = G.2.1 ∧ zRunD ztb zmt' (d + 16) m (zR (some 91) :: As) G1 h1 (fun v' G2 h2 => v' = some (k z) ∧ INV G2 h2))
theorem PR_w {k : Int → zV} {d n m : Nat} {As : List zV} {G : zG} {h : zM} (p : PR k d n m As G h) : PRw k d n m As G h := by
  unfold PR at p
  unfold PRw
  refine zRunD_mono ztb zmt' (d + 16) _ _ _ _ _ _ ?_ p
  rintro v G1 h1 ⟨rfl, z, e, r⟩
  exact ⟨z, e, rfl, r⟩
theorem rT_fr2 {h h' : zM} {u : Nat} {T : aTn} (hk : rT h u T) (h1 : ∀ c i, u ≤ c → c ≤ u + 9 → h' c i = h c i) : rT h' u T := by
  unfold rT at hk ⊢
  simp only [h1 u _ (Nat.le_refl u) (Nat.le_add_right u _), h1 (u + 1) _ (Nat.le_add_right u _) (by omega), h1 (u + 2) _ (Nat.le_add_right u _) (by omega), h1 (u + 3) _ (Nat.le_add_right u _) (by omega), h1 (u + 4) _ (Nat.le_add_right u _) (by omega), h1 (u + 5) _ (Nat.le_add_right u _) (by omega), h1 (u + 6) _ (Nat.le_add_right u _) (by omega), h1 (u + 7) _ (Nat.le_add_right u _) (by omega), h1 (u + 8) _ (Nat.le_add_right u _) (by omega), h1 (u + 9) _ (Nat.le_add_right u _) (by omega)]
  exact hk
theorem gU_to {G G' : zG} {u : Nat} (hu : gU G u) (h3 : G'.2.2.2 91 3 = G.2.2.2 91 3) (hl : u + 11 ≤ G.1) (hk : ∀ c, c < G.1 → G'.2.1 c = G.2.1 c ∧ G'.2.2.1 c = G.2.2.1 c) (hr : ∀ c i, c < G.1 → ¬ (c = 91 ∧ (i = 3 ∨ i = 4)) → G'.2.2.2 c i = G.2.2.2 c i) : gU G' u := by
  have u1 := hu.1
  have r : ∀ i, G'.2.2.2 u i = G.2.2.2 u i := fun i => hr u i (by omega) (by omega)
  have k0 := (hk u (by omega)).1
  have kk : ∀ j, j ≤ 10 → G'.2.1 (u + j) = G.2.1 (u + j) ∧ G'.2.2.1 (u + j) = G.2.2.1 (u + j) := fun j hj => hk (u + j) (by omega)
  unfold gU at hu ⊢
  simp only [h3, r, k0, kk 1 (by decide), kk 2 (by decide), kk 3 (by decide), kk 4 (by decide), kk 5 (by decide), kk 6 (by decide), kk 7 (by decide), kk 8 (by decide), kk 9 (by decide), kk 10 (by decide)]
  exact hu
theorem p_town {d : Nat} {G : zG} {h : zM} (hI : INV G h) (x : Int) : PRw zI d 60 140 [zI x] G h := by
  obtain ⟨hg, i1, i2, i3⟩ := id hI
  obtain ⟨n0, a1, a2, a3, a4⟩ := i1
  unfold PRw
  by_cases hx : 0 ≤ x ∧ x ≤ n0
  · obtain ⟨n, rfl⟩ : ∃ n : Nat, x = n := ⟨x.toNat, by omega⟩
    have hn : n ≤ n0 := by omega
    have hg1 : gS (zgu G 2 2 (some 1)) := gS_22 hg
    apply c_town (d := d + 9) hg a1 hn (by omega)
    intro h1 c1
    refine ⟨_, rfl, rfl, ?_⟩
    obtain ⟨cf, c01, cr⟩ := c1
    apply m_town (d := d + 8) (tp := h 1) hg1 (n0 := n0) (by rw [cf _ _ (by omega)]; exact a2) hn (by omega) (fun i hi => by
      have := a4 i (by omega)
      rw [cf _ _ (by omega), ← this.1]
      exact ⟨rfl, this.2⟩)
    intro G2 h2 m2
    refine ⟨rfl, ?_⟩
    obtain ⟨⟨g1, g2, g3, g4⟩, mf, m6, mr⟩ := m2
    have e0 : ∀ c i, c < 91 → h2 c i = h1 c i := fun c i hc => mf c i (Or.inl hc)
    have I1' : I1 h2 h2 := ⟨0, by rw [e0 _ _ (by decide), c01]; rfl, by rw [m6]; rfl, by decide, fun i hi => by omega⟩
    generalize hr : pAll (h 1) n = r at cr mr
    have z1 : (zgu G 2 2 (some 1)).1 = G.1 := rfl
    rw [z1] at g2 g3 g4
    cases r with
    | inl e =>
      obtain ⟨b1, b2, b3, b4, b5⟩ := cr
      obtain ⟨d1, d2, d3, d4, d5, d6⟩ := mr
      rw [z1] at d6
      have ff : ∀ c i, 18 ≤ c → c < G.1 → ¬ (c = 91 ∧ i < 16) → h2 c i = h c i := fun c i q1 q2 q3 => by rw [d6 c i q2 q3, b5 c i q1]
      have v1 : 121 ≤ G.1 := hg.1
      have e93 : (zgu G 2 2 (some 1)).2.2.2 91 3 = G.2.2.2 91 3 := by rw [zgu_r, if_neg (by decide)]
      refine ⟨g1, I1', ⟨?_, ?_, ?_⟩, ?_⟩
      · rw [d2, e0 _ _ (by decide), b1]
      · rw [d3, e0 _ _ (by decide), b3]
      · rw [d4, e0 _ _ (by decide), b1, if_pos rfl, e0 _ _ (by decide), b4]
      · rcases i3 with z | ⟨u, T, Y, z⟩
        · refine Or.inl ?_
          obtain ⟨y1, y2, y3, y4, y5, y6, y7, y8, y9, y10⟩ := z
          refine ⟨by rw [d5, e93]; exact y1, ?_, ?_, ?_, ?_, ?_, ?_, ?_, ?_, ?_⟩
          · rw [ff _ _ (by omega) (by omega) (by omega)]; exact y2
          · rw [ff _ _ (by omega) (by omega) (by omega)]; exact y3
          · rw [ff _ _ (by omega) (by omega) (by omega)]; exact y4
          · rw [ff _ _ (by omega) (by omega) (by omega)]; exact y5
          · rw [ff _ _ (by omega) (by omega) (by omega)]; exact y6
          · rw [ff _ _ (by omega) (by omega) (by omega)]; exact y7
          · rw [ff _ _ (by omega) (by omega) (by omega)]; exact y8
          · rw [ff _ _ (by omega) (by omega) (by omega)]; exact y9
          · rw [ff _ _ (by omega) (by omega) (by omega)]; exact y10
        · refine Or.inr ⟨u, T, Y, ?_⟩
          obtain ⟨y1, y2, y3, y4, y5, y6, y7⟩ := z
          have u1 := y1.1
          refine ⟨gU_to (G := zgu G 2 2 (some 1)) (gU_gu y1 (by decide) (by decide)) d5 y2 g3 g4, by omega, y3, kT_frame y4 (fun c i q1 q2 => ff c i (by omega) (by omega) (by omega)), rT_fr2 y5 (fun c i q1 q2 => ff c i (by omega) (by omega) (by omega)), I4_fr y3 y6 (fun c i q1 q2 => ff c i (by omega) (by omega) (by omega)) (ff _ _ (by omega) (by omega) (by omega)) (ff _ _ (by omega) (by omega) (by omega)) (fun i _ => ff _ _ (by omega) (by omega) (by omega)) (fun c i q1 q2 => ff c i (by omega) (by omega) (by omega)), I5_fr y7 (fun c i q1 q2 => ff c i (by omega) (by omega) (by omega)) (ff _ _ (by omega) (by omega) (by omega)) (fun c i q1 q2 => ff c i (by omega) (by omega) (by omega))⟩
    | inr D =>
      obtain ⟨b1, b2, b3, b4, b5, b6⟩ := cr
      obtain ⟨d1, d2, d3, d4, d5, d30, d31, d47, d101, d102⟩ := mr
      rw [z1] at d4 d5
      obtain ⟨s1, s2, s3, s4, s5⟩ := b6
      have hw := b5
      obtain ⟨w1, w2, w3, w4⟩ := b5
      refine ⟨g1, I1', ⟨?_, ?_, ?_⟩, Or.inr ⟨G.1, D.1, 0, d4, by omega, hw, kT_frame b4 (fun c i q1 q2 => e0 c i (by omega)), d5, ?_, ?_⟩⟩
      · rw [d1, e0 _ _ (by decide), b1]
      · rw [d2, e0 _ _ (by decide), b2]
      · rw [d3, e0 _ _ (by decide), b1, if_neg (by decide)]
      · have z39 : ∀ i, i < 492 → h2 39 i = 0 := fun i hi => by rw [e0 _ _ (by decide)]; exact s3 i hi
        have z40 : ∀ i, i < 123 → h2 40 i = 0 ∧ h2 41 i = 0 := fun i hi => by rw [e0 _ _ (by decide), e0 _ _ (by decide)]; exact s4 i hi
        have z42 : h2 42 0 = 0 := by rw [e0 _ _ (by decide)]; exact s2
        refine ⟨⟨by decide, by rw [e0 _ _ (by decide)]; exact s1, d31⟩, ⟨by rw [z42, d30], fun y hy => by omega, fun y hy => ?_⟩, ⟨fun b hb => ?_, fun y b hy => by omega, fun y b hy hb => ?_⟩, ⟨fun s b hs hb => ?_, fun y s b hy => by omega, fun y s hy hs => ?_⟩, fun y b hy => by omega, fun y hy => by omega⟩
        · have : y = 0 := by omega
          rw [this, z42]
          decide
        · rw [(z40 _ (by omega)).1, (z40 _ (by omega)).2, (d102 b hb).1, (d102 b hb).2]
          exact ⟨rfl, rfl⟩
        · have : y = 0 := by omega
          subst this
          rw [(z40 _ (by omega)).1, (z40 _ (by omega)).2]
          refine ⟨⟨Int.le_refl _, by omega⟩, ⟨Int.le_refl _, by omega⟩, fun _ => rfl⟩
        · rw [z39 _ (by omega), d101 _ (by omega)]
        · have : y = 0 := by omega
          subst this
          refine ⟨fun b hb => by rw [z39 _ (by omega)]; exact Int.le_refl _, ?_, fun _ => z39 _ (by omega)⟩
          rw [z39 _ (by omega), z39 _ (by omega), z39 _ (by omega)]
          decide
      · have z87 : h2 87 0 = 0 := by rw [e0 _ _ (by decide)]; exact s5
        refine ⟨Or.inl z87, by rw [d47, z87], fun z => ?_⟩
        rw [z87] at z
        cases z
  · have ct := fun Q' => c_town2 (d := d + 9) (Q := Q') (G := G) (h := h) (x := x) hg a1 hx
    have mt := fun Q' => m_town2 (d := d + 8) (Q := Q') (G := G) (h := zu h 0 11 2) (x := x) (n := n0) hg (by rw [zu_c (by decide)]; exact a2) hx
    rw [ct]
    refine ⟨-1, rfl, rfl, ?_⟩
    rw [mt]
    refine ⟨rfl, INV_fr hI ?_ ?_⟩
    · intro c i q
      unfold core at q
      rw [zu, if_neg (by omega), zu, if_neg (by omega), zu, if_neg (by omega), zu, if_neg (by omega)]
    · refine ⟨by simp [zu], ?_, by simp [zu]⟩
      have := i2.2.1
      simp [zu]
      exact this
