/-! rest: the pulls, the calmest acts, what they are worth -/
section PU
variable (ac : Nat → Nat) (nb : Nat) (w : Nat → Nat → Int)
def gB (all b : Nat) : Nat → Int
  | 0 => 0
  | a + 1 => max (gB all b a) (w (all - aAct ac nb all b * sd ac nb b + a * sd ac nb b) b - w all b)
def pl (all : Nat) : Nat → Int
  | 0 => 0
  | b + 1 => max (pl all b) (gB ac nb w all b (ac b))
def pull (all : Nat) : Int := pl ac nb w all nb
def cm : Nat → Int × Nat
  | 0 => (pull ac nb w 0, 0)
  | k + 1 => if pull ac nb w (k + 1) < (cm k).1 then (pull ac nb w (k + 1), k + 1) else cm k
def calm : Nat := (cm ac nb w (tg ac nb - 1)).2
def least : Int := (cm ac nb w (tg ac nb - 1)).1
end PU
section PUT
variable {ac : Nat → Nat} {nb : Nat} {w : Nat → Nat → Int}
theorem gB_0 (all b a : Nat) : 0 ≤ gB ac nb w all b a := by
  induction a with
  | zero => exact Int.le_refl 0
  | succ a ih =>
    unfold gB
    omega
theorem pl_0 (all b : Nat) : 0 ≤ pl ac nb w all b := by
  induction b with
  | zero => exact Int.le_refl 0
  | succ b ih =>
    unfold pl
    omega
theorem pl_mono (all b j : Nat) : pl ac nb w all b ≤ pl ac nb w all (b + j) := by
  induction j with
  | zero => exact Int.le_refl _
  | succ j ih =>
    have : pl ac nb w all (b + (j + 1)) = max (pl ac nb w all (b + j)) (gB ac nb w all (b + j) (ac (b + j))) := rfl
    omega
theorem pull_0 (all : Nat) : 0 ≤ pull ac nb w all := pl_0 all nb
theorem cm_0 (k : Nat) : 0 ≤ (cm ac nb w k).1 ∧ (cm ac nb w k).2 ≤ k := by
  induction k with
  | zero => exact ⟨pull_0 0, Nat.le_refl 0⟩
  | succ k ih =>
    unfold cm
    split
    · exact ⟨pull_0 _, Nat.le_refl _⟩
    · exact ⟨ih.1, by omega⟩
theorem cm_stop (k j : Nat) (h : (cm ac nb w k).1 ≤ 0) : cm ac nb w (k + j) = cm ac nb w k := by
  induction j with
  | zero => rfl
  | succ j ih =>
    have h1 := pull_0 (ac := ac) (nb := nb) (w := w) (k + j + 1)
    have h2 : cm ac nb w (k + (j + 1)) = if pull ac nb w (k + j + 1) < (cm ac nb w (k + j)).1 then (pull ac nb w (k + j + 1), k + j + 1) else cm ac nb w (k + j) := rfl
    rw [h2, ih, if_neg (by omega)]
theorem calm_b (ht : 1 ≤ tg ac nb) : calm ac nb w < tg ac nb := by
  have := (cm_0 (ac := ac) (nb := nb) (w := w) (tg ac nb - 1)).2
  unfold calm
  omega
end PUT
theorem rdx {s c R all a : Nat} (hc : 1 ≤ c) (hs : 1 ≤ s) (h : all < s * c * R) (ha : a < c) : all - all / s % c * s + a * s < s * c * R ∧ all / s % c * s ≤ all := by
  have e1 : s * (all / s) + all % s = all := Nat.div_add_mod all s
  have e2 : all % s < s := Nat.mod_lt _ (by omega)
  have e3 : c * (all / s / c) + all / s % c = all / s := Nat.div_add_mod _ c
  generalize hq : all / s = q at *
  generalize hr : all % s = r at *
  generalize hQ : q / c = Q at *
  generalize ht : q % c = t at *
  have e4 : s * q = s * c * Q + t * s := by
    rw [← e3, Nat.mul_add, Nat.mul_assoc, Nat.mul_comm t s]
  have e5 : s * c * Q < s * c * R := by omega
  have e6 : Q < R := Nat.lt_of_mul_lt_mul_left e5
  have e7 : s * c * (Q + 1) ≤ s * c * R := Nat.mul_le_mul (Nat.le_refl _) e6
  have e8 : s * c * (Q + 1) = s * c * Q + s * c := Nat.mul_succ _ _
  have e9 : (a + 1) * s ≤ c * s := Nat.mul_le_mul ha (Nat.le_refl _)
  have e10 : (a + 1) * s = a * s + s := Nat.succ_mul _ _
  have e11 : c * s = s * c := Nat.mul_comm _ _
  omega
theorem tg_split {ac : Nat → Nat} {nb b : Nat} (hb : b < nb) : ∃ R, tg ac nb = sd ac nb b * ac b * R := by
  have h1 : ∀ j, ∃ R, tgU ac nb (nb - b + j) = tgU ac nb (nb - b) * R := by
    intro j
    induction j with
    | zero => exact ⟨1, (Nat.mul_one _).symm⟩
    | succ j ih =>
      obtain ⟨R, hR⟩ := ih
      refine ⟨R * ac (nb - 1 - (nb - b + j)), ?_⟩
      have : tgU ac nb (nb - b + (j + 1)) = tgU ac nb (nb - b + j) * ac (nb - 1 - (nb - b + j)) := rfl
      rw [this, hR, Nat.mul_assoc]
  obtain ⟨R, hR⟩ := h1 b
  refine ⟨R, ?_⟩
  have e1 : nb - b + b = nb := by omega
  have e2 : nb - b = (nb - 1 - b) + 1 := by omega
  have e3 : nb - 1 - (nb - 1 - b) = b := by omega
  rw [e1] at hR
  unfold tg
  rw [hR, e2, tgU, e3]
  rfl
theorem dev_b {T : aTn} (hw : wT T) {ac : Nat → Nat} (hc : acOk T ac) {all b a : Nat} (hb : b < nB T) (ha : a < ac b) (hall : all < tg ac (nB T)) : all - aAct ac (nB T) all b * sd ac (nB T) b + a * sd ac (nB T) b < tg ac (nB T) ∧ aAct ac (nB T) all b * sd ac (nB T) b ≤ all := by
  obtain ⟨R, hR⟩ := tg_split (ac := ac) hb
  have h1 := hc b
  have h2 := sd_b hw hc b
  rw [hR] at hall ⊢
  exact rdx h1.1 h2.1 hall ha
/-! years ahead -/
def aN (hd : Nat → Nat → Int) (nn nf : Nat → Int) (s k : Nat) : Int := if k < 3 then hd s k else if k = 3 then nn s else nf s
def hB (hd : Nat → Nat → Int) (B : Int) : Prop := (∀ s k, 0 ≤ hd s k) ∧ ∀ s, hd s 0 + hd s 1 + hd s 2 ≤ B
def fB (nn nf : Nat → Int) : Prop := ∀ s, 0 ≤ nn s ∧ 0 ≤ nf s ∧ nn s + nf s ≤ 100
section YA
variable (T : aTn) (ac : Nat → Nat) (nn nf : Nat → Int)
def eE (hd : Nat → Nat → Int) (all b : Nat) : Int := aEarS T (aOwn T ac all) (aOth T ac all) (aN hd nn nf) (aTo T (aOwn T ac all) (aOth T ac all)) b (nS T)
def nx (hd : Nat → Nat → Int) (all : Nat) : Nat → Nat → Int := fun s b => if s < nS T then aNext T (aN hd nn nf) (aTo T (aOwn T ac all) (aOth T ac all)) b s else 0
def rW : Nat → (Nat → Nat → Int) → Nat → Nat → Int
  | 0, _, _, _ => 0
  | y + 1, hd, all, b => eE T ac nn nf hd all b + (if y = 0 then 0 else kp T * rW y (nx T ac nn nf hd all) (calm ac (nB T) (rW y (nx T ac nn nf hd all))) b / 100)
def rU : Nat → (Nat → Nat → Int) → Prop
  | 0, _ => False
  | y + 1, hd => 0 < least ac (nB T) (rW T ac nn nf (y + 1) hd) ∨ ¬ y = 0 ∧ ∃ all, all < tg ac (nB T) ∧ rU y (nx T ac nn nf hd all)
end YA
theorem aN_ok {hd : Nat → Nat → Int} {B : Int} {nn nf : Nat → Int} (h1 : hB hd B) (h2 : fB nn nf) (h3 : B + 100 ≤ 2000000) : nOk (aN hd nn nf) := by
  constructor
  · intro s k
    have e1 := h1.1 s k
    have e2 := h2 s
    unfold aN
    split
    · exact e1
    · split <;> omega
  · intro s
    have e1 := h1.2 s
    have e2 := h2 s
    show hd s 0 + hd s 1 + hd s 2 + nn s + nf s ≤ 2000000
    omega
theorem came_sum {n : Nat → Nat → Int} {to : Nat → Nat → Nat} (h0 : ∀ s k, 0 ≤ n s k) (s k : Nat) : aCame n to 0 s k + aCame n to 1 s k + aCame n to 2 s k ≤ aSum n s k := by
  induction k with
  | zero => exact Int.le_refl 0
  | succ k ih =>
    have h1 := h0 s k
    unfold aCame aSum
    by_cases c0 : to s k = 0
    · rw [if_pos c0, if_neg (by omega), if_neg (by omega)]
      omega
    · by_cases c1 : to s k = 1
      · rw [if_neg c0, if_pos c1, if_neg (by omega)]
        omega
      · rw [if_neg c0, if_neg c1]
        split <;> omega
theorem aNext_b {T : aTn} (hw : wT T) {n : Nat → Nat → Int} {to : Nat → Nat → Nat} (hn : nOk n) (b s : Nat) : 0 ≤ aNext T n to b s ∧ aNext T n to b s ≤ aCame n to b s 5 := by
  have g3 := aCame_b (to := to) hn b s 5 (by omega)
  have g4 := (hw.2.2.2.2.2 s).2.2.2.2.2.2.1
  have g5 := mulb g3.1 (Int.le_refl _) g4.1 g4.2 (by decide) (by decide)
  unfold aNext
  omega
theorem nx_b {T : aTn} (hw : wT T) {ac : Nat → Nat} {nn nf : Nat → Int} {hd : Nat → Nat → Int} {B : Int} (h1 : hB hd B) (h2 : fB nn nf) (h3 : B + 100 ≤ 2000000) (h4 : -100 ≤ B) (all : Nat) : hB (nx T ac nn nf hd all) (B + 100) := by
  have hn := aN_ok h1 h2 h3
  constructor
  · intro s k
    unfold nx
    split
    · exact (aNext_b hw hn k s).1
    · exact Int.le_refl 0
  · intro s
    unfold nx
    split
    · have e0 := aNext_b (to := aTo T (aOwn T ac all) (aOth T ac all)) hw hn 0 s
      have e1 := aNext_b (to := aTo T (aOwn T ac all) (aOth T ac all)) hw hn 1 s
      have e2 := aNext_b (to := aTo T (aOwn T ac all) (aOth T ac all)) hw hn 2 s
      have e3 := came_sum (to := aTo T (aOwn T ac all) (aOth T ac all)) hn.1 s 5
      have e4 := aSum5 (n := aN hd nn nf) s
      have e5 : aN hd nn nf s 0 + aN hd nn nf s 1 + aN hd nn nf s 2 + aN hd nn nf s 3 + aN hd nn nf s 4 = hd s 0 + hd s 1 + hd s 2 + nn s + nf s := rfl
      have e6 := h1.2 s
      have e7 := h2 s
      omega
    · omega
theorem came_0 {T : aTn} (hw : wT T) {own oth : Nat → Int} {n : Nat → Nat → Int} (h2 : nB T = 2) (h0 : ∀ s, n s 2 = 0) (s k : Nat) (hk : k ≤ 5) : aCame n (aTo T own oth) 2 s k = 0 := by
  induction k with
  | zero => rfl
  | succ k ih =>
    unfold aCame
    rw [ih (by omega)]
    by_cases hk2 : k = 2
    · subst hk2
      rw [h0 s]
      split <;> rfl
    · rw [if_neg]
      · rfl
      · have b1 := aCh_b hw (own := own) (oth := oth) (s := s) (far := tr T 7 s) (f := k)
        have b2 := aCh_b hw (own := own) (oth := oth) (s := s) (far := 0) (f := 3) (Or.inl rfl)
        have b3 := aCh_b hw (own := own) (oth := oth) (s := s) (far := 1) (f := 3) (Or.inl rfl)
        unfold aTo
        split
        · have := b1 (Or.inr (by omega))
          omega
        · split <;> omega
theorem nx_0 {T : aTn} (hw : wT T) {ac : Nat → Nat} {nn nf : Nat → Int} {hd : Nat → Nat → Int} (h2 : nB T = 2) (h0 : ∀ s, hd s 2 = 0) (all s : Nat) : nx T ac nn nf hd all s 2 = 0 := by
  unfold nx
  split
  · unfold aNext
    rw [came_0 hw h2 (fun s => by exact h0 s) s 5 (Nat.le_refl 5), Int.zero_mul]
    rfl
  · rfl
/-- who chooses alike is held alike -/
theorem nx_alike {T : aTn} (hw : wT T) {ac : Nat → Nat} {nn nf : Nat → Int} {hd : Nat → Nat → Int} (h0 : nB T = 2 → ∀ s, hd s 2 = 0) {a t : Nat} (h : ∀ s, s < nS T → aPk T (aOwn T ac t) (aOth T ac t) s = aPk T (aOwn T ac a) (aOth T ac a) s) : nx T ac nn nf hd t = nx T ac nn nf hd a := by
  funext s b
  unfold nx
  split
  · rename_i hs
    have hk : ∀ k, k < nB T ∨ k = 3 ∨ k = 4 → aTo T (aOwn T ac t) (aOth T ac t) s k = aTo T (aOwn T ac a) (aOth T ac a) s k := by
      intro k hk
      have e1 := aPk_to hw (own := aOwn T ac t) (oth := aOth T ac t) (s := s) hk
      have e2 := aPk_to hw (own := aOwn T ac a) (oth := aOth T ac a) (s := s) hk
      rw [h s hs, e2] at e1
      omega
    have hc : ∀ k, k ≤ 5 → aCame (aN hd nn nf) (aTo T (aOwn T ac t) (aOth T ac t)) b s k = aCame (aN hd nn nf) (aTo T (aOwn T ac a) (aOth T ac a)) b s k := by
      intro k
      induction k with
      | zero => intro _; rfl
      | succ k ih =>
        intro hk5
        unfold aCame
        rw [ih (by omega)]
        by_cases hk2 : k < nB T ∨ k = 3 ∨ k = 4
        · rw [hk k hk2]
        · have hB := hw.1
          have k2 : k = 2 := by omega
          have z : aN hd nn nf s k = 0 := by
            rw [k2]
            exact h0 (by omega) s
          rw [z]
          split <;> split <;> rfl
    unfold aNext
    rw [hc 5 (Nat.le_refl 5)]
  · rfl
theorem fl100 {k M V : Int} (hk : 0 ≤ k ∧ k ≤ 100) (hM : 0 ≤ M) (h1 : -M ≤ V) (h2 : V ≤ M) : -M ≤ k * V / 100 ∧ k * V / 100 ≤ M := by
  have a1 := mulb (n := k) (p := V) (N := 100) (lo := -M) (hi := M) hk.1 hk.2 h1 h2 (by omega) hM
  omega
theorem rW_b {T : aTn} (hw : wT T) {ac : Nat → Nat} {nn nf : Nat → Int} (h2 : fB nn nf) (y : Nat) : ∀ {hd : Nat → Nat → Int} {B : Int}, hB hd B → B + 100 * y ≤ 2000000 → -100 ≤ B → ∀ all b, -(1592000000 * (y : Int)) ≤ rW T ac nn nf y hd all b ∧ rW T ac nn nf y hd all b ≤ 1592000000 * y := by
  induction y with
  | zero =>
    intro hd B _ _ _ all b
    exact ⟨Int.le_refl 0, Int.le_refl 0⟩
  | succ y ih =>
    intro hd B h1 h3 h4 all b
    have hn := aN_ok h1 h2 (by omega)
    have e1 := aEarS_t (to := aTo T (aOwn T ac all) (aOth T ac all)) hw hn (aOwn_b hw ac all) (aOth_b hw ac all) b (nS T)
    have e2 := hw.2.1
    have e3 := ih (nx_b hw (ac := ac) h1 h2 (by omega) h4 all) (by omega) (by omega) (calm ac (nB T) (rW T ac nn nf y (nx T ac nn nf hd all))) b
    have e4 := fl100 hw.2.2.2.2.1 (by omega) e3.1 e3.2
    unfold rW eE
    split <;> omega
