/-! THE TEXT: tokens -/
def kB (b : Int) : Nat := if 97 ≤ b ∧ b ≤ 122 then 1 else if 48 ≤ b ∧ b ≤ 57 then 2 else if b = 59 then 3 else if b = 44 then 4 else 5
section TK
variable (tp : Nat → Int) (n : Nat)
def skp : Nat → Nat → Nat
  | 0, p => p
  | j + 1, p => if tp p = 32 then skp j (p + 1) else p
def rnE (k : Nat) : Nat → Nat → Nat
  | 0, p => p
  | j + 1, p => if kB (tp p) = k then rnE k j (p + 1) else p
/-- the letters' number, of l letters from p on -/
def wcd (p : Nat) : Nat → Int
  | 0 => 0
  | l + 1 => 32 * wcd p l + (tp (p + l) - 96)
def nmb (p : Nat) : Nat → Int
  | 0 => 0
  | l + 1 => 10 * nmb p l + (tp (p + l) - 48)
def st (q : Nat) : Nat := skp tp (n - q) q
def rn (q : Nat) : Nat := rnE tp (kB (tp (st tp n q))) (n - st tp n q) (st tp n q)
/-- the kind of the token at q: 0 the end, 1 a word, 2 a whole, 3 ;, 4 a comma, 5 none -/
def kd (q : Nat) : Nat := if n ≤ st tp n q then 0 else if kB (tp (st tp n q)) = 1 then (if 8 < rn tp n q - st tp n q then 5 else 1) else if kB (tp (st tp n q)) = 2 then (if 3 < rn tp n q - st tp n q then 5 else 2) else kB (tp (st tp n q))
def nxt (q : Nat) : Nat := if n ≤ st tp n q then n else if kB (tp (st tp n q)) = 1 ∨ kB (tp (st tp n q)) = 2 then rn tp n q else st tp n q + 1
def wd (q : Nat) : Int := wcd tp (st tp n q) (rn tp n q - st tp n q)
def nb (q : Nat) : Int := nmb tp (st tp n q) (rn tp n q - st tp n q)
end TK
section TKT
variable {tp : Nat → Int} {n : Nat}
theorem skp_b (j p : Nat) : p ≤ skp tp j p ∧ skp tp j p ≤ p + j := by
  induction j generalizing p with
  | zero => exact ⟨Nat.le_refl _, Nat.le_refl _⟩
  | succ j ih =>
    unfold skp
    split
    · have := ih (p + 1)
      omega
    · omega
theorem rnE_b (k j p : Nat) : p ≤ rnE tp k j p ∧ rnE tp k j p ≤ p + j := by
  induction j generalizing p with
  | zero => exact ⟨Nat.le_refl _, Nat.le_refl _⟩
  | succ j ih =>
    unfold rnE
    split
    · have := ih (p + 1)
      omega
    · omega
theorem rnE_all (k j p i : Nat) (h1 : p ≤ i) (h2 : i < rnE tp k j p) : kB (tp i) = k := by
  induction j generalizing p with
  | zero => unfold rnE at h2; omega
  | succ j ih =>
    unfold rnE at h2
    split at h2
    · rename_i e
      by_cases q : i = p
      · rw [q]; exact e
      · exact ih (p + 1) (by omega) h2
    · omega
theorem rnE_end (k j p : Nat) (h2 : rnE tp k j p < p + j) : ¬ kB (tp (rnE tp k j p)) = k := by
  induction j generalizing p with
  | zero => unfold rnE at h2; omega
  | succ j ih =>
    unfold rnE at h2 ⊢
    split at h2
    · rename_i e
      rw [if_pos e]
      exact ih (p + 1) (by omega)
    · rename_i e
      rw [if_neg e]
      exact e
theorem rnE_s (k j p : Nat) (hj : 1 ≤ j) (h : kB (tp p) = k) : p < rnE tp k j p := by
  obtain ⟨j, rfl⟩ : ∃ j', j = j' + 1 := ⟨j - 1, by omega⟩
  unfold rnE
  rw [if_pos h]
  have := (rnE_b (tp := tp) k j (p + 1)).1
  omega
theorem kB_b (b : Int) : 1 ≤ kB b ∧ kB b ≤ 5 := by
  unfold kB
  split
  · omega
  · split
    · omega
    · split
      · omega
      · split <;> omega
theorem kB_1 {b : Int} : kB b = 1 ↔ 97 ≤ b ∧ b ≤ 122 := by
  unfold kB
  split
  · rename_i h; exact ⟨fun _ => h, fun _ => rfl⟩
  · rename_i h
    constructor
    · intro q
      split at q
      · omega
      · split at q
        · omega
        · split at q <;> omega
    · intro q; exact absurd q h
theorem kB_2 {b : Int} : kB b = 2 ↔ 48 ≤ b ∧ b ≤ 57 := by
  unfold kB
  split
  · omega
  · split
    · rename_i h; exact ⟨fun _ => h, fun _ => rfl⟩
    · rename_i h
      constructor
      · intro q
        split at q
        · omega
        · split at q <;> omega
      · intro q; exact absurd q h
theorem kB_3 {b : Int} : kB b = 3 ↔ b = 59 := by
  unfold kB
  split
  · omega
  · split
    · omega
    · split
      · omega
      · split <;> omega
theorem kB_4 {b : Int} : kB b = 4 ↔ b = 44 := by
  unfold kB
  split
  · omega
  · split
    · omega
    · split
      · omega
      · split <;> omega
theorem st_b (q : Nat) (h : q ≤ n) : q ≤ st tp n q ∧ st tp n q ≤ n := by
  have := skp_b (tp := tp) (n - q) q
  unfold st
  omega
theorem rn_b (q : Nat) (h : q ≤ n) : st tp n q ≤ rn tp n q ∧ rn tp n q ≤ n := by
  have h1 := st_b (tp := tp) q h
  have := rnE_b (tp := tp) (kB (tp (st tp n q))) (n - st tp n q) (st tp n q)
  unfold rn
  omega
theorem rn_s (q : Nat) (h2 : st tp n q < n) : st tp n q < rn tp n q := by
  unfold rn
  exact rnE_s _ _ _ (by omega) rfl
theorem nxt_b (q : Nat) (h : q ≤ n) : q ≤ nxt tp n q ∧ nxt tp n q ≤ n ∧ (¬ kd tp n q = 0 → q < nxt tp n q) := by
  have h1 := st_b (tp := tp) q h
  have h2 := rn_b (tp := tp) q h
  have h3 := rn_s (tp := tp) (n := n) q
  unfold nxt kd
  split
  · refine ⟨by omega, by omega, fun z => absurd rfl z⟩
  · have := h3 (by omega)
    split <;> omega
theorem kd_b (q : Nat) : kd tp n q ≤ 5 := by
  have := kB_b (tp (st tp n q))
  unfold kd
  split
  · omega
  · split
    · split <;> omega
    · split
      · split <;> omega
      · omega
/-- a word: its letters -/
theorem kd_1 {q : Nat} (h : q ≤ n) (hk : kd tp n q = 1) : st tp n q < n ∧ kB (tp (st tp n q)) = 1 ∧ nxt tp n q = rn tp n q ∧ 1 ≤ rn tp n q - st tp n q ∧ rn tp n q - st tp n q ≤ 8 ∧ ∀ i, st tp n q ≤ i → i < rn tp n q → 97 ≤ tp i ∧ tp i ≤ 122 := by
  have h3 := rn_s (tp := tp) (n := n) q
  unfold kd at hk
  split at hk
  · omega
  · rename_i h1
    have h4 := h3 (by omega)
    split at hk
    · rename_i h2
      split at hk
      · omega
      · refine ⟨by omega, h2, ?_, by omega, by omega, ?_⟩
        · unfold nxt
          rw [if_neg h1, if_pos (Or.inl h2)]
        · intro i q1 q2
          rw [← kB_1]
          unfold rn at q2
          rw [rnE_all _ _ _ _ q1 q2, h2]
    · rename_i h2
      split at hk
      · split at hk <;> omega
      · omega
theorem kd_2 {q : Nat} (hk : kd tp n q = 2) : st tp n q < n ∧ kB (tp (st tp n q)) = 2 ∧ nxt tp n q = rn tp n q ∧ 1 ≤ rn tp n q - st tp n q ∧ rn tp n q - st tp n q ≤ 3 ∧ ∀ i, st tp n q ≤ i → i < rn tp n q → 48 ≤ tp i ∧ tp i ≤ 57 := by
  have h3 := rn_s (tp := tp) (n := n) q
  unfold kd at hk
  split at hk
  · omega
  · rename_i h1
    have h4 := h3 (by omega)
    split at hk
    · split at hk <;> omega
    · split at hk
      · rename_i h2
        split at hk
        · omega
        · refine ⟨by omega, h2, ?_, by omega, by omega, ?_⟩
          · unfold nxt
            rw [if_neg h1, if_pos (Or.inr h2)]
          · intro i q1 q2
            rw [← kB_2]
            unfold rn at q2
            rw [rnE_all _ _ _ _ q1 q2, h2]
      · have := kB_b (tp (st tp n q))
        omega
theorem kd_3 {q : Nat} (hk : kd tp n q = 3 ∨ kd tp n q = 4) : st tp n q < n ∧ kB (tp (st tp n q)) = kd tp n q ∧ nxt tp n q = st tp n q + 1 := by
  unfold kd at hk ⊢
  by_cases h1 : n ≤ st tp n q
  · rw [if_pos h1] at hk; omega
  · rw [if_neg h1] at hk ⊢
    by_cases h2 : kB (tp (st tp n q)) = 1
    · rw [if_pos h2] at hk
      split at hk <;> omega
    · rw [if_neg h2] at hk ⊢
      by_cases h3 : kB (tp (st tp n q)) = 2
      · rw [if_pos h3] at hk
        split at hk <;> omega
      · rw [if_neg h3] at hk ⊢
        refine ⟨by omega, rfl, ?_⟩
        unfold nxt
        rw [if_neg h1, if_neg (by omega)]
theorem kd_0 {q : Nat} (h : q ≤ n) (hk : kd tp n q = 0) : st tp n q = n ∧ nxt tp n q = n := by
  have h1 := st_b (tp := tp) q h
  have hb := kB_b (tp (st tp n q))
  unfold kd at hk
  split at hk
  · rename_i z
    refine ⟨by omega, ?_⟩
    unfold nxt
    rw [if_pos z]
  · split at hk
    · split at hk <;> omega
    · split at hk
      · split at hk <;> omega
      · omega
theorem wcd_b {p l : Nat} (h : ∀ i, i < l → 97 ≤ tp (p + i) ∧ tp (p + i) ≤ 122) : 0 ≤ wcd tp p l ∧ wcd tp p l + 1 ≤ 32 ^ l ∧ (1 ≤ l → 1 ≤ wcd tp p l) := by
  induction l with
  | zero => exact ⟨Int.le_refl 0, (show (0 : Int) + 1 ≤ 32 ^ 0 by decide), fun q => by omega⟩
  | succ l ih =>
    have h1 := ih (fun i hi => h i (by omega))
    have h2 := h l (by omega)
    unfold wcd
    rw [Int.pow_succ]
    omega
/-- words are told by their numbers -/
theorem wcd_inj {p p' : Nat} {tp' : Nat → Int} {l l' : Nat} (h : ∀ i, i < l → 97 ≤ tp (p + i) ∧ tp (p + i) ≤ 122) (h' : ∀ i, i < l' → 97 ≤ tp' (p' + i) ∧ tp' (p' + i) ≤ 122) (e : wcd tp p l = wcd tp' p' l') : l = l' ∧ ∀ i, i < l → tp (p + i) = tp' (p' + i) := by
  induction l generalizing l' with
  | zero =>
    have q := wcd_b h'
    rw [← e] at q
    unfold wcd at q
    refine ⟨?_, fun i hi => by omega⟩
    by_cases z : 1 ≤ l'
    · have := q.2.2 z
      omega
    · omega
  | succ l ih =>
    have q := wcd_b h
    cases l' with
    | zero =>
      have := q.2.2 (by omega)
      rw [e] at this
      unfold wcd at this
      omega
    | succ l' =>
      have a := h l (by omega)
      have a' := h' l' (by omega)
      unfold wcd at e
      have e1 : wcd tp p l = wcd tp' p' l' := by omega
      have e2 : tp (p + l) = tp' (p' + l') := by omega
      obtain ⟨f1, f2⟩ := ih (fun i hi => h i (by omega)) (fun i hi => h' i (by omega)) e1
      subst f1
      refine ⟨rfl, fun i hi => ?_⟩
      by_cases z : i = l
      · rw [z]; exact e2
      · exact f2 i (by omega)
theorem wcd_cong {p p' : Nat} {tp' : Nat → Int} {l : Nat} (h : ∀ i, i < l → tp (p + i) = tp' (p' + i)) : wcd tp p l = wcd tp' p' l := by
  induction l with
  | zero => rfl
  | succ l ih =>
    unfold wcd
    rw [ih (fun i hi => h i (by omega)), h l (by omega)]
end TKT
