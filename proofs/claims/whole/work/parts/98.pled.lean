section SITES
variable {d : Nat} {Q : zQ} {st : List zV} {G : zG} {h : zM} {k : zK} {x y i : Int} {r r1 r2 q : Nat} {w9 : Option Nat ⊕ Nat} {q9 : Option Nat} {v0 v1 v2 v3 v4 : zV} {l0 l1 l2 l3 l4 l5 l6 l7 l8 l9 l10 l11 l12 l13 l14 l15 : Option zV}
theorem e220_0 : zE 220 d Q 0 [l0, l1, some (.inr (.inr w9)), l3] st G h k ↔ zE 220 d Q 1 [l0, l1, some (.inr (.inr w9)), l3] (.inr (.inr w9) :: st) G h k := E_aload_n (show zRow 220 0 = some (.aload_n 2, 1, 2, 0, 0) from rfl) rfl
theorem e220_1 : zE 220 d Q 1 [l0, l1, l2, l3] st G h k ↔ zE 220 d Q 2 [l0, l1, l2, l3] (zI 0 :: st) G h k := E_iconst (show zRow 220 1 = some (.iconst 0, 1, 0, 0, 0) from rfl)
theorem e220_2 : zE 220 d Q 2 [some (.inr (.inr w9)), l1, l2, l3] st G h k ↔ zE 220 d Q 3 [some (.inr (.inr w9)), l1, l2, l3] (.inr (.inr w9) :: st) G h k := E_aload_n (show zRow 220 2 = some (.aload_n 0, 1, 0, 0, 0) from rfl) rfl
theorem e220_3 : zE 220 d Q 3 [l0, some (zI x), l2, l3] st G h k ↔ zE 220 d Q 4 [l0, some (zI x), l2, l3] (zI x :: st) G h k := E_iload_n (show zRow 220 3 = some (.iload_n 1, 1, 1, 0, 0) from rfl) rfl
theorem e220_7 : zE 220 d Q 7 [l0, l1, l2, l3] (zI x :: st) G h k ↔ zE 220 d Q 8 [l0, l1, l2, l3] (zL x :: st) G h k := E_i2l (show zRow 220 7 = some (.i2l, 1, 0, 0, 0) from rfl)
theorem e220_8 : zE 220 d Q 8 [l0, l1, l2, l3] (zL x :: zI i :: zR (some r) :: st) G h k ↔ (G.2.1 r = 11 ∧ (0 ≤ i ∧ i < G.2.2.1 r) ∧ zE 220 d Q 9 [l0, l1, l2, l3] st G (zu h r i.toNat x) k) := E_lastore (show zRow 220 8 = some (.lastore, 1, 0, 0, 0) from rfl)
theorem e220_9 : zE 220 d Q 9 [l0, l1, l2, l3] st G h k ↔ zE 220 d Q 15 [l0, l1, l2, l3] st G h k := E_goto (show zRow 220 9 = some (.goto 6, 3, 15, 0, 0) from rfl)
theorem e220_12 : zE 220 d Q 12 [l0, l1, l2, l3] (.inr (.inr w9) :: st) G h k ↔ zE 220 d Q 13 [l0, l1, (zclr l2), some (.inr (.inr w9))] st G h k := E_astore_n (show zRow 220 12 = some (.astore_n 3, 1, 3, 0, 0) from rfl) (Nat.le_of_ble_eq_true rfl)
theorem e220_13 : zE 220 d Q 13 [l0, l1, l2, l3] st G h k ↔ zE 220 d Q 14 [l0, l1, l2, l3] (zI 1 :: st) G h k := E_iconst (show zRow 220 13 = some (.iconst 1, 1, 0, 0, 1) from rfl)
theorem e220_14 : zE 220 d Q 14 [l0, l1, l2, l3] [zI x] G h k ↔ Q (some (zI x)) G h := E_iret (show zRow 220 14 = some (.ireturn, 1, 0, 0, 0) from rfl) rfl
theorem e220_15 : zE 220 d Q 15 [l0, l1, l2, l3] st G h k ↔ zE 220 d Q 16 [l0, l1, l2, l3] (zI 0 :: st) G h k := E_iconst (show zRow 220 15 = some (.iconst 0, 1, 0, 0, 0) from rfl)
theorem e220_16 : zE 220 d Q 16 [l0, l1, l2, l3] [zI x] G h k ↔ Q (some (zI x)) G h := E_iret (show zRow 220 16 = some (.ireturn, 1, 0, 0, 0) from rfl) rfl
end SITES
section PLED
variable {d : Nat} {Q : zQ} {G : zG} {h : zM} {x : Int}
theorem e220_4 {r : Nat} {lo : zLo} {st : List zV} (hs : zsum st ≤ 8) (hk : G.2.1 r = 7) (H : zRunD ztb zmt' d 92 [zR (some r), zI x] G h (fun v G' h' => if v = some (zT 2000) then zE 220 d Q 12 lo [zT 2000] G' h' (0 + 1, 0 + 6) else zE 220 d Q 7 lo (v.toList ++ st) G' h' (0 + 1, 0 + 6))) : zE 220 d Q 4 lo (zI x :: zR (some r) :: st) G h (0, 0) := by
  rw [zE_iff]
  unfold zF
  rw [show zRow 220 4 = some (.invokevirtual 7, 3, 92, 1, 6) from rfl]
  dsimp only
  rw [if_pos rfl]
  exact ⟨[zI x], r, st, rfl, hs, hk, by decide, by decide, H⟩
theorem ll_run (hg : gS G) {Y : Nat} (hY : h 38 0 = (Y : Int)) (h40 : Y ≤ 40) (K1 : ∀ y : Nat, y < Y → 0 < h 44 y → cnt (h 44) y = x → Q (some (zI 0)) G (zu h 120 0 y)) (K2 : (∀ y, y < Y → 0 < h 44 y → ¬ cnt (h 44) y = x) → Q (some (zI 1)) G h) : zRunD ztb zmt' (d + 2) 220 [zR (some 0), zI x, zR (some 120)] G h Q := by
  rw [r220]
  simp only [e220_0, e220_1, e220_2, e220_3]
  apply e220_4 (by decide) (gk0 hg)
  apply c_led (d := d) hg hY h40
  · intro y y1 y2 y3
    have kk := K1 y y1 y2 y3
    rw [if_neg (by intro q; cases q)]
    simp only [e220_0, e220_1, e220_2, e220_3, e220_7, e220_8, e220_9, e220_12, e220_13, e220_14, e220_15, e220_16, zs0, zsI, zsL, zsR, ztl1, ztl0, zc0, zcI, zcL, zcR, true_and, and_true, true_implies, false_implies, implies_true, not_true_eq_false, not_false_eq_true, and_self, Int.toNat_natCast, Nat.reduceAdd, Nat.reduceLeDiff, Nat.reduceLT, forall_eq', Option.some.injEq, zarR, zarI, zarL, zle, zq0, zq1, zq2, zq3, zq4, zq5, zq6, zq8, zq9, zq10, zq20, zq7, zq12, zq24, zq40, zq41, zq48, zq100, zq120, zq123, zq480, zq492, zq700, zq729, zq2187, zq2916, zq8748, ne_eq, Int.reduceEq, Int.reduceLT, Int.reduceLE, Int.reduceToNat, Int.reduceMul, Int.reduceAdd, Int.reduceNeg, gk120 hg, gl120 hg]
    exact kk
  · intro hn
    have kk := K2 hn
    rw [if_pos rfl]
    simp only [e220_0, e220_1, e220_2, e220_3, e220_7, e220_8, e220_9, e220_12, e220_13, e220_14, e220_15, e220_16, zs0, zsI, zsL, zsR, ztl1, ztl0, zc0, zcI, zcL, zcR, true_and, and_true, true_implies, false_implies, implies_true, not_true_eq_false, not_false_eq_true, and_self, Int.toNat_natCast, Nat.reduceAdd, Nat.reduceLeDiff, Nat.reduceLT, forall_eq', Option.some.injEq, zarR, zarI, zarL, zle, zq0, zq1, zq2, zq3, zq4, zq5, zq6, zq8, zq9, zq10, zq20, zq7, zq12, zq24, zq40, zq41, zq48, zq100, zq120, zq123, zq480, zq492, zq700, zq729, zq2187, zq2916, zq8748, ne_eq, Int.reduceEq, Int.reduceLT, Int.reduceLE, Int.reduceToNat, Int.reduceMul, Int.reduceAdd, Int.reduceNeg]
    exact kk
theorem cnt_cg {f g : Nat → Int} {Y : Nat} (h : ∀ y, y < Y → f y = g y) : ∀ y, y ≤ Y → cnt f y = cnt g y := by
  intro y
  induction y with
  | zero => intro _; rfl
  | succ y ih =>
    intro hy
    rw [cnt, cnt, ih (by omega), h y (by omega)]
theorem p_thrown (hg : gS G) : zRunD ztb zmt' (d + 1) 113 [zR (some 91)] G h Q ↔ Q (some (zI (h 91 0))) G h := by
  rw [r113]
  simp only [e113_0, e113_1, e113_4, zs0, zsI, zsL, zsR, ztl1, ztl0, zc0, zcI, zcL, zcR, true_and, and_true, true_implies, false_implies, implies_true, not_true_eq_false, not_false_eq_true, and_self, Int.toNat_natCast, Nat.reduceAdd, Nat.reduceLeDiff, Nat.reduceLT, forall_eq', Option.some.injEq, zarR, zarI, zarL, zle, zq0, zq1, zq2, zq3, zq4, zq5, zq6, zq8, zq9, zq10, zq20, zq7, zq12, zq24, zq40, zq41, zq48, zq100, zq120, zq123, zq480, zq492, zq700, zq729, zq2187, zq2916, zq8748, ne_eq, Int.reduceEq, Int.reduceLT, Int.reduceLE, Int.reduceToNat, Int.reduceMul, Int.reduceAdd, Int.reduceNeg, gk91 hg, gr91_5 hg, gr91_22 hg, gr91_23 hg, gr91_24 hg, gr91_25 hg, gr91_26 hg, gr91_27 hg, gr91_28 hg, gr91_29 hg, gr91_32 hg, gr91_33 hg, gr91_34 hg, gr91_35 hg, gr91_36 hg, gr91_37 hg, gr91_38 hg, gr91_39 hg, gr91_40 hg, gr91_41 hg, gr91_42 hg, gr91_44 hg, gr91_45 hg, gr91_46 hg, gr91_48 hg, gr91_49 hg, gr91_50 hg, gr91_51 hg, gr91_52 hg, or_true, true_or, if_true, if_false, false_and, and_false, false_or, or_false]
/-- led on both, and what the other says of its throw -/
def PRl (d : Nat) (x : Int) (G : zG) (h : zM) : Prop := zRunD ztb zmt' (d + 16) 220 [zR (some 0), zI x, zR (some 120)] G h (fun v G1 h1 => ∃ κ : Int, v = some (zI κ) ∧ (κ = 0 ∨ κ = 1) ∧ G1 = G ∧ zRunD ztb zmt' (d + 16) 209 [zR (some 91), zI x] G h1 (fun v2 G2 h2 => ∃ b : Int, v2 = some (zI b) ∧ G2 = G ∧ zRunD ztb zmt' (d + 16) 113 [zR (some 91)] G h2 (fun v3 G3 h3 => v3 = some (zI κ) ∧ G3 = G ∧ INV G h3 ∧ (κ = 0 → h3 120 0 = b))))
theorem p_led (hI : INV G h) (x : Int) : PRl d x G h := by
  have hg := hI.1
  obtain ⟨Y, h40, y1, y2, e1, e2⟩ : ∃ Y : Nat, Y ≤ 40 ∧ h 38 0 = (Y : Int) ∧ h 91 31 = (Y : Int) ∧ (∀ y, y < Y → h 44 y = h 109 y) ∧ (∀ y, y < Y → 0 ≤ h 109 y) := by
    rcases hI.2.2.2 with a | ⟨u, T, Y, a⟩
    · exact ⟨0, by decide, by rw [a.2.2.2.2.2.2.1]; rfl, by rw [a.2.2.2.2.2.2.2.1]; rfl, fun y hy => by omega, fun y hy => by omega⟩
    · obtain ⟨-, -, -, -, -, i4, -⟩ := a
      obtain ⟨⟨b1, b2, b3⟩, -, -, -, -, b4⟩ := i4
      exact ⟨Y, b1, b2, b3, fun y hy => (b4 y hy).1, fun y hy => by rw [← (b4 y hy).1]; exact (b4 y hy).2⟩
  have cg := cnt_cg e1
  have inv : ∀ (h' : zM), (∀ c i, ¬ (c = 120) → ¬ (c = 91 ∧ i = 0) → h' c i = h c i) → INV G h' := by
    intro h' f
    have a3 := hI.2.2.1
    refine INV_fr hI (fun c i q => f c i (by unfold core at q; omega) (by unfold core at q; omega)) ?_
    refine ⟨?_, ?_, ?_⟩
    · rw [f _ _ (by omega) (by omega), f _ _ (by omega) (by omega)]; exact a3.1
    · rw [f _ _ (by omega) (by omega), f _ _ (by omega) (by omega)]; exact a3.2.1
    · rw [f _ _ (by omega) (by omega), f _ _ (by omega) (by omega), f _ _ (by omega) (by omega)]; exact a3.2.2
  unfold PRl
  apply ll_run (d := d + 14) hg y1 h40
  · intro y q1 q2 q3
    refine ⟨0, rfl, Or.inl rfl, rfl, ?_⟩
    apply m_led (d := d + 15) hg (Y := Y) (by rw [zu_c (by decide)]; exact y2) h40 (fun y' q => by rw [zu_c (by decide)]; exact e2 y' q)
    · intro z z1 z2 z3
      rw [zu_c (by decide)] at z2
      have e9 : (zu h 120 0 (y : Int)) 109 = h 109 := funext (fun i => zu_c (by decide))
      rw [e9] at z3
      refine ⟨z, rfl, rfl, ?_⟩
      have zy : z = y := by
        rw [cg y (by omega)] at q3
        rw [e1 y q1] at q2
        rcases Nat.lt_trichotomy z y with w | w | w
        · have := cnt_lt w z2
          omega
        · exact w
        · have := cnt_lt w q2
          omega
      have pt := fun h9 Q' => p_thrown (d := d + 15) (Q := Q') (h := h9) hg
      rw [pt]
      refine ⟨by rw [zu_at], rfl, inv _ (fun c i w1 w2 => by rw [zu, if_neg (by omega), zu_c w1]), fun _ => ?_⟩
      rw [zu_c (by decide), zu_at, zy]
    · intro hn
      exfalso
      have e9 : (zu h 120 0 (y : Int)) 109 = h 109 := funext (fun i => zu_c (by decide))
      rw [e9] at hn
      exact hn y q1 (by rw [← e1 y q1]; exact q2) (by rw [← cg y (by omega)]; exact q3)
  · intro hn
    refine ⟨1, rfl, Or.inr rfl, rfl, ?_⟩
    apply m_led (d := d + 15) hg (Y := Y) y2 h40 e2
    · intro z z1 z2 z3
      exfalso
      exact hn z z1 (by rw [e1 z z1]; exact z2) (by rw [cg z (by omega)]; exact z3)
    · intro _
      refine ⟨0, rfl, rfl, ?_⟩
      have pt := fun h9 Q' => p_thrown (d := d + 15) (Q := Q') (h := h9) hg
      rw [pt]
      refine ⟨by rw [zu_at], rfl, inv _ (fun c i w1 w2 => by rw [zu, if_neg (by omega), zu, if_neg (by omega)]), fun w => absurd w (by decide)⟩
end PLED
