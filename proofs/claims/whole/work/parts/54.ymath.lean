/-! years that go on: the seed, who is new, who is held -/
def sdN (sd : Int) : Nat → Int
  | 0 => sd
  | s + 1 => if 0 < sdN sd s then (75 * sdN sd s + 74) % 65537 else sdN sd s
def frN (T : aTn) (sd : Int) (s : Nat) : Int := if 0 < sdN sd s then max 0 (tr T 3 s + sdN sd (s + 1) % 3 - 1) else tr T 3 s
def nfN (T : aTn) (sd : Int) (s : Nat) : Int := if tr T 7 s = 1 then frN T sd s else 0
def nnN (T : aTn) (sd : Int) (s : Nat) : Int := frN T sd s - nfN T sd s
def sumL (f : Nat → Int) : Nat → Int
  | 0 => 0
  | s + 1 => sumL f s + f s
def yN (T : aTn) (p : (Nat → Nat → Int) × Int) : Nat → Nat → Int := aN p.1 (nnN T p.2) (nfN T p.2)
def yNx (T : aTn) (own oth : Nat → Int) (p : (Nat → Nat → Int) × Int) : (Nat → Nat → Int) × Int := (fun s b => if s < nS T then aNext T (yN T p) (aTo T own oth) b s else 0, sdN p.2 (nS T))
def yS (T : aTn) (own oth : Nat → Int) (p : (Nat → Nat → Int) × Int) : Nat → (Nat → Nat → Int) × Int
  | 0 => p
  | k + 1 => yNx T own oth (yS T own oth p k)
def yL (T : aTn) (own oth : Nat → Int) (p : (Nat → Nat → Int) × Int) : Int := sumL (fun s => aLeft (yN T p) (aTo T own oth) s 5) (nS T)
def yE (T : aTn) (own oth : Nat → Int) (p : (Nat → Nat → Int) × Int) (b : Nat) : Int := aEarS T own oth (yN T p) (aTo T own oth) b (nS T)
theorem sdN_b {sd : Int} (h : 0 ≤ sd ∧ sd ≤ 65536) (s : Nat) : 0 ≤ sdN sd s ∧ sdN sd s ≤ 65536 := by
  induction s with
  | zero => exact h
  | succ s ih =>
    unfold sdN
    split <;> omega
theorem frN_b {T : aTn} (hw : wT T) {sd : Int} (h : 0 ≤ sd ∧ sd ≤ 65536) (s : Nat) : 0 ≤ frN T sd s ∧ frN T sd s ≤ 100 := by
  have h1 := (hw.2.2.2.2.2 s).2.2.2.1
  have h2 := sdN_b h (s + 1)
  unfold frN
  split <;> omega
theorem fBN {T : aTn} (hw : wT T) {sd : Int} (h : 0 ≤ sd ∧ sd ≤ 65536) : fB (nnN T sd) (nfN T sd) := by
  intro s
  have h1 := frN_b hw h s
  unfold nnN nfN
  split <;> omega
theorem fB0 {T : aTn} (hw : wT T) : fB (fun s => tr T 3 s - (if tr T 7 s = 1 then tr T 3 s else 0)) (fun s => if tr T 7 s = 1 then tr T 3 s else 0) := by
  intro s
  have h1 := (hw.2.2.2.2.2 s).2.2.2.1
  dsimp only
  split <;> omega
/-- what is held, and the seed, within bounds -/
def pOk (T : aTn) (p : (Nat → Nat → Int) × Int) (B : Int) : Prop := hB p.1 B ∧ (0 ≤ p.2 ∧ p.2 ≤ 65536) ∧ (nB T = 2 → ∀ s, p.1 s 2 = 0)
theorem yN_ok {T : aTn} (hw : wT T) {p : (Nat → Nat → Int) × Int} {B : Int} (h : pOk T p B) (h3 : B + 100 ≤ 2000000) : nOk (yN T p) := aN_ok h.1 (fBN hw h.2.1) h3
theorem yNx_ok {T : aTn} (hw : wT T) {own oth : Nat → Int} {p : (Nat → Nat → Int) × Int} {B : Int} (h : pOk T p B) (h3 : B + 100 ≤ 2000000) (h4 : -100 ≤ B) : pOk T (yNx T own oth p) (B + 100) := by
  have hn := yN_ok hw h h3
  refine ⟨⟨?_, ?_⟩, sdN_b h.2.1 _, ?_⟩
  · intro s k
    unfold yNx
    dsimp only
    split
    · exact (aNext_b hw hn k s).1
    · exact Int.le_refl 0
  · intro s
    unfold yNx
    dsimp only
    split
    · have e0 := aNext_b (to := aTo T own oth) hw hn 0 s
      have e1 := aNext_b (to := aTo T own oth) hw hn 1 s
      have e2 := aNext_b (to := aTo T own oth) hw hn 2 s
      have e3 := came_sum (to := aTo T own oth) hn.1 s 5
      have e4 := aSum5 (n := yN T p) s
      have e5 : yN T p s 0 + yN T p s 1 + yN T p s 2 + yN T p s 3 + yN T p s 4 = p.1 s 0 + p.1 s 1 + p.1 s 2 + nnN T p.2 s + nfN T p.2 s := rfl
      have e6 := h.1.2 s
      have e7 := fBN hw h.2.1 s
      omega
    · omega
  · intro h2 s
    unfold yNx
    dsimp only
    split
    · unfold aNext
      rw [came_0 hw h2 (fun s => by exact h.2.2 h2 s) s 5 (Nat.le_refl 5), Int.zero_mul]
      rfl
    · rfl
theorem yS_ok {T : aTn} (hw : wT T) {own oth : Nat → Int} {p : (Nat → Nat → Int) × Int} {B : Int} (h : pOk T p B) (h4 : -100 ≤ B) (k : Nat) (h3 : B + 100 * (k : Int) ≤ 2000000) : pOk T (yS T own oth p k) (B + 100 * k) := by
  induction k with
  | zero =>
    rw [show B + 100 * ((0 : Nat) : Int) = B by omega]
    exact h
  | succ k ih =>
    have := yNx_ok (own := own) (oth := oth) hw (ih (by omega)) (by omega) (by omega)
    rw [show B + 100 * ((k + 1 : Nat) : Int) = B + 100 * (k : Int) + 100 by omega]
    exact this
theorem yL_b {T : aTn} (hw : wT T) {own oth : Nat → Int} {p : (Nat → Nat → Int) × Int} (hn : nOk (yN T p)) (k : Nat) : 0 ≤ sumL (fun s => aLeft (yN T p) (aTo T own oth) s 5) k ∧ sumL (fun s => aLeft (yN T p) (aTo T own oth) s 5) k ≤ 10000000 * (k : Int) := by
  induction k with
  | zero => unfold sumL; omega
  | succ k ih =>
    have := aLeft_b (to := aTo T own oth) hn k 5 (by omega)
    unfold sumL
    omega
/-- what is held at row Y of the one -/
def hdC (T : aTn) (h : zM) (Y : Nat) : Nat → Nat → Int := fun s b => if s < nS T ∧ b < 3 then h 39 (Y * 12 + b * 4 + s) else 0
theorem I4_pOk {T : aTn} {Y : Nat} {g h : zM} (i4 : I4 T Y g h) : pOk T (hdC T g Y, g 42 Y) (30100 * (Y : Int) + 29997) := by
  refine ⟨⟨?_, ?_⟩, i4.2.1.2.2 Y (Nat.le_refl _), ?_⟩
  · intro s k
    unfold hdC
    dsimp only
    split
    · rename_i q
      exact (i4.2.2.2.1.2.2 Y s (Nat.le_refl _) q.1).1 k q.2
    · exact Int.le_refl 0
  · intro s
    unfold hdC
    dsimp only
    by_cases q : s < nS T
    · rw [if_pos ⟨q, by decide⟩, if_pos ⟨q, by decide⟩, if_pos ⟨q, by decide⟩]
      have := (i4.2.2.2.1.2.2 Y s (Nat.le_refl _) q).2.1
      omega
    · rw [if_neg (fun e => q e.1), if_neg (fun e => q e.1), if_neg (fun e => q e.1)]
      omega
  · intro h2 s
    unfold hdC
    dsimp only
    split
    · rename_i q
      exact (i4.2.2.2.1.2.2 Y s (Nat.le_refl _) q.1).2.2 h2
    · rfl
