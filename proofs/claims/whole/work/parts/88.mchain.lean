section PL2
variable {tp : Nat → Int} {n q : Nat} {D : pD}
theorem pBk_d {e : pE} (h : (sV (sF (sV (sF (sV (pNd tp n (if nB D.1 = 3 then 1 else 0) D.2.1 q) (pWh tp n 4 99))) (pWh tp n 5 9))) (pWh tp n 6 999)) = .inl e) : pBk tp n D q = .inl e := by
  unfold pBk
  by_cases f : nB D.1 = 3
  · rw [if_pos f] at h ⊢
    unfold pNd at h
    rw [if_pos rfl] at h
    dsimp only [sV, sF] at h
    cases h
    rfl
  · rw [if_neg f] at h ⊢
    unfold pNd at h
    rw [if_neg (by decide)] at h
    cases hA : pNm tp n D.2.1 (nxt tp n q) with
    | inl e' => rw [hA] at h; dsimp only [sV, sF] at h ⊢; cases h; rfl
    | inr qA =>
      rw [hA] at h
      dsimp only [sV, sF] at h ⊢
      cases h3 : pWh tp n 4 99 qA with
      | inl e' => rw [h3] at h; dsimp only [sV, sF] at h ⊢; cases h; rfl
      | inr p3 =>
        rw [h3] at h
        dsimp only [sV, sF] at h ⊢
        cases h4 : pWh tp n 5 9 p3.1 with
        | inl e' => rw [h4] at h; dsimp only [sV, sF] at h ⊢; cases h; rfl
        | inr p4 =>
          rw [h4] at h
          dsimp only [sV, sF] at h ⊢
          cases h5 : pWh tp n 6 999 p4.1 with
          | inl e' => rw [h5] at h; cases h; rfl
          | inr p5 => rw [h5] at h; cases h
theorem pBk_l {p5 : Nat × Int} (h : (sV (sF (sV (sF (sV (pNd tp n (if nB D.1 = 3 then 1 else 0) D.2.1 q) (pWh tp n 4 99))) (pWh tp n 5 9))) (pWh tp n 6 999)) = .inr p5) : ¬ nB D.1 = 3 ∧ ∃ (qA : Nat) (p3 : Nat × Int) (p4 : Nat × Int), (pNd tp n (if nB D.1 = 3 then 1 else 0) D.2.1 q) = .inr qA ∧ (sV (pNd tp n (if nB D.1 = 3 then 1 else 0) D.2.1 q) (pWh tp n 4 99)) = .inr p3 ∧ (sV (sF (sV (pNd tp n (if nB D.1 = 3 then 1 else 0) D.2.1 q) (pWh tp n 4 99))) (pWh tp n 5 9)) = .inr p4 ∧ pBk tp n D q = .inr (p5.1, bkT D.1 p3.2 p4.2 p5.2, D.2.1 ++ [(st tp n (nxt tp n q), rn tp n (nxt tp n q) - st tp n (nxt tp n q))], D.2.2) := by
  unfold pBk
  by_cases f : nB D.1 = 3
  · rw [if_pos f] at h
    unfold pNd at h
    rw [if_pos rfl] at h
    dsimp only [sV, sF] at h
    cases h
  · rw [if_neg f] at h ⊢
    unfold pNd at h ⊢
    rw [if_neg (by decide)] at h ⊢
    refine ⟨f, ?_⟩
    cases hA : pNm tp n D.2.1 (nxt tp n q) with
    | inl e' => rw [hA] at h; dsimp only [sV, sF] at h; cases h
    | inr qA =>
      rw [hA] at h
      dsimp only [sV, sF] at h ⊢
      cases h3 : pWh tp n 4 99 qA with
      | inl e' => rw [h3] at h; dsimp only [sV, sF] at h; cases h
      | inr p3 =>
        rw [h3] at h
        dsimp only [sV, sF] at h ⊢
        cases h4 : pWh tp n 5 9 p3.1 with
        | inl e' => rw [h4] at h; dsimp only [sV, sF] at h; cases h
        | inr p4 =>
          rw [h4] at h
          dsimp only [sV, sF] at h ⊢
          cases h5 : pWh tp n 6 999 p4.1 with
          | inl e' => rw [h5] at h; cases h
          | inr p' =>
            rw [h5] at h
            cases h
            refine ⟨qA, p3, p4, rfl, ?_, ?_, if_neg f⟩
            · simp only [sV, sF, h3]
            · simp only [sV, sF, h3, h4]
theorem pSr_d {e : pE} (h : (sV (sF (sV (sF (sV (sF (sV (sF (sV (pNd tp n (if nS D.1 = 4 then 1 else 0) D.2.1 q) (pWh tp n 7 99))) (pWh tp n 8 199))) (pWh tp n 9 99))) (pWh tp n 10 100))) (pEi tp n 11 12)) = .inl e) : pSr tp n D q = .inl e := by
  unfold pSr
  by_cases f : nS D.1 = 4
  · rw [if_pos f] at h ⊢
    unfold pNd at h
    rw [if_pos rfl] at h
    dsimp only [sV, sF] at h
    cases h
    rfl
  · rw [if_neg f] at h ⊢
    unfold pNd at h
    rw [if_neg (by decide)] at h
    cases hA : pNm tp n D.2.1 (nxt tp n q) with
    | inl e' => rw [hA] at h; dsimp only [sV, sF] at h ⊢; cases h; rfl
    | inr qA =>
      rw [hA] at h
      dsimp only [sV, sF] at h ⊢
      cases h3 : pWh tp n 7 99 qA with
      | inl e' => rw [h3] at h; dsimp only [sV, sF] at h ⊢; cases h; rfl
      | inr p3 =>
        rw [h3] at h
        dsimp only [sV, sF] at h ⊢
        cases h4 : pWh tp n 8 199 p3.1 with
        | inl e' => rw [h4] at h; dsimp only [sV, sF] at h ⊢; cases h; rfl
        | inr p4 =>
          rw [h4] at h
          dsimp only [sV, sF] at h ⊢
          cases h5 : pWh tp n 9 99 p4.1 with
          | inl e' => rw [h5] at h; dsimp only [sV, sF] at h ⊢; cases h; rfl
          | inr p5 =>
            rw [h5] at h
            dsimp only [sV, sF] at h ⊢
            cases h6 : pWh tp n 10 100 p5.1 with
            | inl e' => rw [h6] at h; dsimp only [sV, sF] at h ⊢; cases h; rfl
            | inr p6 =>
              rw [h6] at h
              dsimp only [sV, sF] at h ⊢
              cases h7 : pEi tp n 11 12 p6.1 with
              | inl e' => rw [h7] at h; cases h; rfl
              | inr p7 => rw [h7] at h; cases h
theorem pSr_l {p7 : Nat × Int} (h : (sV (sF (sV (sF (sV (sF (sV (sF (sV (pNd tp n (if nS D.1 = 4 then 1 else 0) D.2.1 q) (pWh tp n 7 99))) (pWh tp n 8 199))) (pWh tp n 9 99))) (pWh tp n 10 100))) (pEi tp n 11 12)) = .inr p7) : ¬ nS D.1 = 4 ∧ ∃ (qA : Nat) (p3 : Nat × Int) (p4 : Nat × Int) (p5 : Nat × Int) (p6 : Nat × Int), (pNd tp n (if nS D.1 = 4 then 1 else 0) D.2.1 q) = .inr qA ∧ (sV (pNd tp n (if nS D.1 = 4 then 1 else 0) D.2.1 q) (pWh tp n 7 99)) = .inr p3 ∧ (sV (sF (sV (pNd tp n (if nS D.1 = 4 then 1 else 0) D.2.1 q) (pWh tp n 7 99))) (pWh tp n 8 199)) = .inr p4 ∧ (sV (sF (sV (sF (sV (pNd tp n (if nS D.1 = 4 then 1 else 0) D.2.1 q) (pWh tp n 7 99))) (pWh tp n 8 199))) (pWh tp n 9 99)) = .inr p5 ∧ (sV (sF (sV (sF (sV (sF (sV (pNd tp n (if nS D.1 = 4 then 1 else 0) D.2.1 q) (pWh tp n 7 99))) (pWh tp n 8 199))) (pWh tp n 9 99))) (pWh tp n 10 100)) = .inr p6 ∧ pSr tp n D q = .inr (p7.1, srT D.1 p3.2 p4.2 p5.2 p6.2 p7.2, D.2.1 ++ [(st tp n (nxt tp n q), rn tp n (nxt tp n q) - st tp n (nxt tp n q))], D.2.2) := by
  unfold pSr
  by_cases f : nS D.1 = 4
  · rw [if_pos f] at h
    unfold pNd at h
    rw [if_pos rfl] at h
    dsimp only [sV, sF] at h
    cases h
  · rw [if_neg f] at h ⊢
    unfold pNd at h ⊢
    rw [if_neg (by decide)] at h ⊢
    refine ⟨f, ?_⟩
    cases hA : pNm tp n D.2.1 (nxt tp n q) with
    | inl e' => rw [hA] at h; dsimp only [sV, sF] at h; cases h
    | inr qA =>
      rw [hA] at h
      dsimp only [sV, sF] at h ⊢
      cases h3 : pWh tp n 7 99 qA with
      | inl e' => rw [h3] at h; dsimp only [sV, sF] at h; cases h
      | inr p3 =>
        rw [h3] at h
        dsimp only [sV, sF] at h ⊢
        cases h4 : pWh tp n 8 199 p3.1 with
        | inl e' => rw [h4] at h; dsimp only [sV, sF] at h; cases h
        | inr p4 =>
          rw [h4] at h
          dsimp only [sV, sF] at h ⊢
          cases h5 : pWh tp n 9 99 p4.1 with
          | inl e' => rw [h5] at h; dsimp only [sV, sF] at h; cases h
          | inr p5 =>
            rw [h5] at h
            dsimp only [sV, sF] at h ⊢
            cases h6 : pWh tp n 10 100 p5.1 with
            | inl e' => rw [h6] at h; dsimp only [sV, sF] at h; cases h
            | inr p6 =>
              rw [h6] at h
              dsimp only [sV, sF] at h ⊢
              cases h7 : pEi tp n 11 12 p6.1 with
              | inl e' => rw [h7] at h; cases h
              | inr p' =>
                rw [h7] at h
                cases h
                refine ⟨qA, p3, p4, p5, p6, rfl, ?_, ?_, ?_, ?_, if_neg f⟩
                · simp only [sV, sF, h3]
                · simp only [sV, sF, h3, h4]
                · simp only [sV, sF, h3, h4, h5]
                · simp only [sV, sF, h3, h4, h5, h6]
end PL2
