def pPr (tp : Nat → Int) (n : Nat) (T : aTn) (q : Nat) : pE ⊕ (Nat × aTn) := match pN tp n (if nP T = 0 then 0 else tr T 8 (nP T - 1) + 1) 199 q with
  | .inl e => .inl e
  | .inr p => if nP T = 3 then .inl (5, (st tp n q : Nat)) else .inr (p.1, prT T p.2)
def pPL (tp : Nat → Int) (n : Nat) : Nat → aTn → Nat → pE ⊕ (Nat × aTn)
  | 0, T, q => .inr (q, T)
  | k + 1, T, q => if kd tp n q = 4 then (match pPr tp n T (nxt tp n q) with
    | .inl e => .inl e
    | .inr p => pPL tp n k p.2 p.1) else .inr (q, T)
def pPs' (tp : Nat → Int) (n : Nat) (D : pD) (q : Nat) : pE ⊕ (Nat × pD) := if ¬ nP D.1 = 0 then .inl (3, (st tp n q : Nat)) else match pEi tp n 13 14 (nxt tp n q) with
  | .inl e => .inl e
  | .inr p => match pPr tp n (twT D.1 p.2) p.1 with
    | .inl e => .inl e
    | .inr r => match pPL tp n 4 r.2 r.1 with
      | .inl e => .inl e
      | .inr t => .inr (t.1, t.2, D.2.1, D.2.2)
def pKp (tp : Nat → Int) (n : Nat) (D : pD) (q : Nat) : pE ⊕ (Nat × pD) := if ¬ D.2.2 = 0 then .inl (3, (st tp n q : Nat)) else match pWh tp n 3 100 q with
  | .inl e => .inl e
  | .inr p => .inr (p.1, kpT D.1 p.2, D.2.1, 1)
def pLn (tp : Nat → Int) (n : Nat) (D : pD) (q : Nat) : pE ⊕ (Nat × pD) := if kd tp n q = 1 ∧ wd tp n q = kwc 0 then pBk tp n D q else if kd tp n q = 1 ∧ wd tp n q = kwc 1 then pSr tp n D q else if kd tp n q = 1 ∧ wd tp n q = kwc 2 then pPs' tp n D q else if kd tp n q = 1 ∧ wd tp n q = kwc 3 then pKp tp n D q else .inl (1, (st tp n q : Nat))
def pR (tp : Nat → Int) (n : Nat) : Nat → pD → Nat → pE ⊕ (Nat × pD)
  | 0, _, _ => .inl (1, 0)
  | k + 1, D, q => match pLn tp n D q with
    | .inl e => .inl e
    | .inr p => if kd tp n p.1 = 0 then .inr p else if kd tp n p.1 = 3 then pR tp n k p.2 (nxt tp n p.1) else .inl (1, (st tp n p.1 : Nat))
def T00 : aTn := (0, 0, 0, 0, 0, fun _ _ => 0)
def pAll (tp : Nat → Int) (n : Nat) : pE ⊕ pD := match pR tp n 701 (T00, [], 0) 0 with
  | .inl e => .inl e
  | .inr p => if nB p.2.1 < 2 ∨ nS p.2.1 < 1 ∨ nP p.2.1 = 0 ∨ p.2.2.2 = 0 then .inl (6, (n : Int)) else .inr p.2
/-- bounds of a town told so far -/
def WB (T : aTn) : Prop := (tw T = 0 ∨ tw T = 1) ∧ (0 ≤ kp T ∧ kp T ≤ 100) ∧ ∀ i, (0 ≤ tr T 0 i ∧ tr T 0 i ≤ 99) ∧ (0 ≤ tr T 1 i ∧ tr T 1 i ≤ 9) ∧ (0 ≤ tr T 2 i ∧ tr T 2 i ≤ 999) ∧ (0 ≤ tr T 3 i ∧ tr T 3 i ≤ 99) ∧ (0 ≤ tr T 4 i ∧ tr T 4 i ≤ 199) ∧ (0 ≤ tr T 5 i ∧ tr T 5 i ≤ 99) ∧ (0 ≤ tr T 6 i ∧ tr T 6 i ≤ 100) ∧ (tr T 7 i = 0 ∨ tr T 7 i = 1) ∧ (0 ≤ tr T 8 i ∧ tr T 8 i ≤ 199)
section PI
variable {tp : Nat → Int} {n : Nat}
theorem pN_ok {lo hi : Int} {q : Nat} {p : Nat × Int} (hq : q ≤ n) (h : pN tp n lo hi q = .inr p) : q ≤ p.1 ∧ p.1 ≤ n ∧ lo ≤ p.2 ∧ p.2 ≤ hi ∧ 0 ≤ p.2 := by
  unfold pN at h
  split at h
  · cases h
  · rename_i k
    split at h
    · cases h
    · rename_i k2
      cases h
      have := nxt_b (tp := tp) q hq
      have := nb_0 (tp := tp) (n := n) (q := q) (by omega)
      dsimp only
      omega
theorem pWh_ok {id : Nat} {m : Int} {q : Nat} {p : Nat × Int} (hq : q ≤ n) (h : pWh tp n id m q = .inr p) : q ≤ p.1 ∧ p.1 ≤ n ∧ 0 ≤ p.2 ∧ p.2 ≤ m := by
  unfold pWh at h
  split at h
  · have a := nxt_b (tp := tp) q hq
    have b := pN_ok a.2.1 h
    omega
  · cases h
theorem pEi_ok {a b : Nat} {q : Nat} {p : Nat × Int} (hq : q ≤ n) (h : pEi tp n a b q = .inr p) : q ≤ p.1 ∧ p.1 ≤ n ∧ (p.2 = 0 ∨ p.2 = 1) := by
  have z := nxt_b (tp := tp) q hq
  unfold pEi at h
  split at h
  · cases h; exact ⟨z.1, z.2.1, Or.inr rfl⟩
  · split at h
    · cases h; exact ⟨z.1, z.2.1, Or.inl rfl⟩
    · cases h
theorem pNm_ok {ns : List (Nat × Nat)} {q q' : Nat} (hq : q ≤ n) (h : pNm tp n ns q = .inr q') : q' = nxt tp n q ∧ kd tp n q = 1 := by
  unfold pNm at h
  split at h
  · cases h
  · rename_i k
    split at h
    · cases h
    · cases h
      exact ⟨rfl, by omega⟩
theorem vN_app {ns : List (Nat × Nat)} {q : Nat} (hq : q ≤ n) (hv : vN tp n ns) (hk : kd tp n q = 1) : vN tp n (ns ++ [(st tp n q, rn tp n q - st tp n q)]) := by
  intro p hp
  rcases List.mem_append.mp hp with z | z
  · exact hv p z
  · have e : p = (st tp n q, rn tp n q - st tp n q) := by simpa using z
    have k1 := kd_1 hq hk
    have rb := rn_b (tp := tp) q hq
    subst e
    refine ⟨k1.2.2.2.1, k1.2.2.2.2.1, by dsimp only; omega, fun i hi => k1.2.2.2.2.2 _ (by dsimp only; omega) (by dsimp only at hi ⊢; omega)⟩
theorem WB_bk {T : aTn} (w : WB T) {a b c : Int} (ha : 0 ≤ a ∧ a ≤ 99) (hb : 0 ≤ b ∧ b ≤ 9) (hc : 0 ≤ c ∧ c ≤ 999) : WB (bkT T a b c) := by
  refine ⟨w.1, w.2.1, fun i => ?_⟩
  obtain ⟨w0, w1, w2, w3, w4, w5, w6, w7, w8⟩ := w.2.2 i
  unfold tr bkT
  dsimp only
  by_cases z : i = T.1
  · simp only [z, true_and, if_true, show ¬ (1 : Nat) = 0 by decide, show ¬ (2 : Nat) = 0 by decide, show ¬ (2 : Nat) = 1 by decide, show ¬ (3 : Nat) = 0 by decide, show ¬ (3 : Nat) = 1 by decide, show ¬ (3 : Nat) = 2 by decide, show ¬ (4 : Nat) = 0 by decide, show ¬ (4 : Nat) = 1 by decide, show ¬ (4 : Nat) = 2 by decide, show ¬ (5 : Nat) = 0 by decide, show ¬ (5 : Nat) = 1 by decide, show ¬ (5 : Nat) = 2 by decide, show ¬ (6 : Nat) = 0 by decide, show ¬ (6 : Nat) = 1 by decide, show ¬ (6 : Nat) = 2 by decide, show ¬ (7 : Nat) = 0 by decide, show ¬ (7 : Nat) = 1 by decide, show ¬ (7 : Nat) = 2 by decide, show ¬ (8 : Nat) = 0 by decide, show ¬ (8 : Nat) = 1 by decide, show ¬ (8 : Nat) = 2 by decide, if_false]
    rw [← z]
    exact ⟨ha, hb, hc, w3, w4, w5, w6, w7, w8⟩
  · simp only [z, false_and, if_false]
    exact ⟨w0, w1, w2, w3, w4, w5, w6, w7, w8⟩
theorem WB_sr {T : aTn} (w : WB T) {a b c e f : Int} (ha : 0 ≤ a ∧ a ≤ 99) (hb : 0 ≤ b ∧ b ≤ 199) (hc : 0 ≤ c ∧ c ≤ 99) (he : 0 ≤ e ∧ e ≤ 100) (hf : f = 0 ∨ f = 1) : WB (srT T a b c e f) := by
  refine ⟨w.1, w.2.1, fun i => ?_⟩
  obtain ⟨w0, w1, w2, w3, w4, w5, w6, w7, w8⟩ := w.2.2 i
  unfold tr srT
  dsimp only
  by_cases z : i = T.2.1
  · simp only [z, true_and, if_true, Nat.reduceEqDiff, if_false]
    rw [← z]
    exact ⟨w0, w1, w2, ha, hb, hc, he, hf, w8⟩
  · simp only [z, false_and, if_false]
    exact ⟨w0, w1, w2, w3, w4, w5, w6, w7, w8⟩
theorem WB_pr {T : aTn} (w : WB T) {a : Int} (ha : 0 ≤ a ∧ a ≤ 199) : WB (prT T a) := by
  refine ⟨w.1, w.2.1, fun i => ?_⟩
  obtain ⟨w0, w1, w2, w3, w4, w5, w6, w7, w8⟩ := w.2.2 i
  unfold tr prT
  dsimp only
  by_cases z : i = T.2.2.1
  · simp only [z, true_and, if_true, Nat.reduceEqDiff, if_false]
    rw [← z]
    exact ⟨w0, w1, w2, w3, w4, w5, w6, w7, ha⟩
  · simp only [z, false_and, if_false]
    exact ⟨w0, w1, w2, w3, w4, w5, w6, w7, w8⟩
theorem pPr_ok {T : aTn} {q : Nat} {p : Nat × aTn} (hq : q ≤ n) (h : pPr tp n T q = .inr p) : q ≤ p.1 ∧ p.1 ≤ n ∧ ¬ nP T = 3 ∧ ∃ v, p.2 = prT T v ∧ 0 ≤ v ∧ v ≤ 199 := by
  unfold pPr at h
  cases hp : pN tp n (if nP T = 0 then 0 else tr T 8 (nP T - 1) + 1) 199 q with
  | inl e => rw [hp] at h; cases h
  | inr r =>
    rw [hp] at h
    dsimp only at h
    have z := pN_ok hq hp
    split at h
    · cases h
    · rename_i k
      cases h
      exact ⟨z.1, z.2.1, k, r.2, rfl, z.2.2.2.2, z.2.2.2.1⟩
theorem pPL_ok (k : Nat) {T : aTn} {q : Nat} {p : Nat × aTn} (hq : q ≤ n) (h1 : 1 ≤ nP T ∧ nP T ≤ 3) (hW : WB T) (h : pPL tp n k T q = .inr p) : q ≤ p.1 ∧ p.1 ≤ n ∧ (1 ≤ nP p.2 ∧ nP p.2 ≤ 3) ∧ WB p.2 ∧ nB p.2 = nB T ∧ nS p.2 = nS T ∧ tw p.2 = tw T := by
  induction k generalizing T q with
  | zero => cases h; exact ⟨Nat.le_refl _, hq, h1, hW, rfl, rfl, rfl⟩
  | succ k ih =>
    unfold pPL at h
    split at h
    · have a := nxt_b (tp := tp) q hq
      cases hp : pPr tp n T (nxt tp n q) with
      | inl e => rw [hp] at h; cases h
      | inr r =>
        rw [hp] at h
        dsimp only at h
        obtain ⟨z1, z2, z3, v, z4, z5⟩ := pPr_ok a.2.1 hp
        have e1 : nP r.2 = nP T + 1 := by rw [z4]; rfl
        have := ih z2 (by omega) (by rw [z4]; exact WB_pr hW z5) h
        refine ⟨by omega, this.2.1, this.2.2.1, this.2.2.2.1, ?_, ?_, ?_⟩
        · rw [this.2.2.2.2.1, z4]; rfl
        · rw [this.2.2.2.2.2.1, z4]; rfl
        · rw [this.2.2.2.2.2.2, z4]; rfl
    · cases h; exact ⟨Nat.le_refl _, hq, h1, hW, rfl, rfl, rfl⟩
theorem pLn_ok {D : pD} {q : Nat} {p : Nat × pD} (hq : q ≤ n) (hB : DB tp n D) (hW : WB D.1) (h : pLn tp n D q = .inr p) : q ≤ p.1 ∧ p.1 ≤ n ∧ DB tp n p.2 ∧ WB p.2.1 := by
  obtain ⟨b1, b2, b3, b4, b5, b6⟩ := hB
  have nx := nxt_b (tp := tp) q hq
  unfold pLn at h
  split at h
  · unfold pBk at h
    split at h
    · cases h
    · rename_i nf
      cases hA : pNm tp n D.2.1 (nxt tp n q) with
      | inl e => rw [hA] at h; cases h
      | inr q2 =>
        rw [hA] at h
        dsimp only at h
        have a2 := pNm_ok nx.2.1 hA
        have n2 := nxt_b (tp := tp) (nxt tp n q) nx.2.1
        cases h3 : pWh tp n 4 99 q2 with
        | inl e => rw [h3] at h; cases h
        | inr p3 =>
          rw [h3] at h
          dsimp only at h
          have a3 := pWh_ok (by omega) h3
          cases h4 : pWh tp n 5 9 p3.1 with
          | inl e => rw [h4] at h; cases h
          | inr p4 =>
            rw [h4] at h
            dsimp only at h
            have a4 := pWh_ok (by omega) h4
            cases h5 : pWh tp n 6 999 p4.1 with
            | inl e => rw [h5] at h; cases h
            | inr p5 =>
              rw [h5] at h
              dsimp only at h
              have a5 := pWh_ok (by omega) h5
              cases h
              refine ⟨by dsimp only; omega, by dsimp only; omega, ⟨?_, b2, b3, ?_, vN_app nx.2.1 b5 a2.2, b6⟩, WB_bk hW a3.2.2 a4.2.2 a5.2.2⟩
              · show nB D.1 + 1 ≤ 3
                omega
              · show (D.2.1 ++ _).length = nB D.1 + 1 + nS D.1
                rw [List.length_append]
                simp
                omega
  · split at h
    · unfold pSr at h
      split at h
      · cases h
      · rename_i nf
        cases hA : pNm tp n D.2.1 (nxt tp n q) with
        | inl e => rw [hA] at h; cases h
        | inr q2 =>
          rw [hA] at h
          dsimp only at h
          have a2 := pNm_ok nx.2.1 hA
          have n2 := nxt_b (tp := tp) (nxt tp n q) nx.2.1
          cases h3 : pWh tp n 7 99 q2 with
          | inl e => rw [h3] at h; cases h
          | inr p3 =>
            rw [h3] at h
            dsimp only at h
            have a3 := pWh_ok (by omega) h3
            cases h4 : pWh tp n 8 199 p3.1 with
            | inl e => rw [h4] at h; cases h
            | inr p4 =>
              rw [h4] at h
              dsimp only at h
              have a4 := pWh_ok (by omega) h4
              cases h5 : pWh tp n 9 99 p4.1 with
              | inl e => rw [h5] at h; cases h
              | inr p5 =>
                rw [h5] at h
                dsimp only at h
                have a5 := pWh_ok (by omega) h5
                cases h6 : pWh tp n 10 100 p5.1 with
                | inl e => rw [h6] at h; cases h
                | inr p6 =>
                  rw [h6] at h
                  dsimp only at h
                  have a6 := pWh_ok (by omega) h6
                  cases h7 : pEi tp n 11 12 p6.1 with
                  | inl e => rw [h7] at h; cases h
                  | inr p7 =>
                    rw [h7] at h
                    dsimp only at h
                    have a7 := pEi_ok (by omega) h7
                    cases h
                    refine ⟨by dsimp only; omega, by dsimp only; omega, ⟨b1, ?_, b3, ?_, vN_app nx.2.1 b5 a2.2, b6⟩, WB_sr hW a3.2.2 a4.2.2 a5.2.2 a6.2.2 a7.2.2⟩
                    · show nS D.1 + 1 ≤ 4
                      omega
                    · show (D.2.1 ++ _).length = nB D.1 + (nS D.1 + 1)
                      rw [List.length_append]
                      simp
                      omega
    · split at h
      · unfold pPs' at h
        split at h
        · cases h
        · rename_i nf
          cases h3 : pEi tp n 13 14 (nxt tp n q) with
          | inl e => rw [h3] at h; cases h
          | inr p3 =>
            rw [h3] at h
            dsimp only at h
            have a3 := pEi_ok nx.2.1 h3
            cases h4 : pPr tp n (twT D.1 p3.2) p3.1 with
            | inl e => rw [h4] at h; cases h
            | inr p4 =>
              rw [h4] at h
              dsimp only at h
              obtain ⟨z1, z2, z3, v, z4, z5⟩ := pPr_ok a3.2.1 h4
              have w3 : WB (twT D.1 p3.2) := ⟨a3.2.2, hW.2.1, hW.2.2⟩
              cases h5 : pPL tp n 4 p4.2 p4.1 with
              | inl e => rw [h5] at h; cases h
              | inr p5 =>
                rw [h5] at h
                dsimp only at h
                have e4 : nP p4.2 = nP D.1 + 1 := by rw [z4]; rfl
                have a5 := pPL_ok 4 z2 (by omega) (by rw [z4]; exact WB_pr w3 z5) h5
                have e5 : nB p4.2 = nB D.1 := by rw [z4]; rfl
                have e6 : nS p4.2 = nS D.1 := by rw [z4]; rfl
                cases h
                refine ⟨by dsimp only; omega, a5.2.1, ⟨?_, ?_, a5.2.2.1.2, ?_, b5, b6⟩, a5.2.2.2.1⟩
                · show nB p5.2 ≤ 3; omega
                · show nS p5.2 ≤ 4; omega
                · show D.2.1.length = nB p5.2 + nS p5.2; omega
      · split at h
        · unfold pKp at h
          split at h
          · cases h
          · cases h3 : pWh tp n 3 100 q with
            | inl e => rw [h3] at h; cases h
            | inr p3 =>
              rw [h3] at h
              dsimp only at h
              have a3 := pWh_ok hq h3
              cases h
              exact ⟨a3.1, a3.2.1, ⟨b1, b2, b3, b4, b5, Or.inr rfl⟩, ⟨hW.1, a3.2.2, hW.2.2⟩⟩
        · cases h
end PI
