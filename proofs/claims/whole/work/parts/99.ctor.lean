/-! the constructors: the world as lists -/
abbrev gA : Type := Nat × Nat × List (Nat × Nat)
def gD : gA := (99, 0, [])
def gl (L : List gA) : zG := (L.length, fun c => (L.getD c gD).1, fun c => (L.getD c gD).2.1, fun c i => (L.getD c gD).2.2.lookup i)
def hl (W : List (Nat × Nat × Int)) : zM := fun c i => match W.find? (fun w => w.1 == c && w.2.1 == i) with
  | some w => w.2.2
  | none => 0
theorem getD_app {L : List gA} {x : gA} {c : Nat} : (L ++ [x]).getD c gD = if c = L.length then x else L.getD c gD := by
  rw [List.getD_eq_getElem?_getD, List.getD_eq_getElem?_getD]
  rcases Nat.lt_trichotomy c L.length with q | q | q
  · rw [List.getElem?_append_left q, if_neg (by omega)]
  · rw [if_pos q, List.getElem?_append_right (by omega), q, Nat.sub_self]
    rfl
  · rw [if_neg (by omega), List.getElem?_eq_none (by simp; omega), List.getElem?_eq_none (by omega)]
theorem gl_gn {L : List gA} {k n : Nat} : zgn (gl L) k n = gl (L ++ [(k, n, [])]) := by
  unfold zgn gl
  simp only [getD_app, List.length_append, List.length_cons, List.length_nil]
  refine Prod.ext rfl (Prod.ext ?_ (Prod.ext ?_ ?_))
  · funext c
    by_cases q : c = L.length
    · simp only [q, if_true]
    · simp only [q, if_false]
  · funext c
    by_cases q : c = L.length
    · simp only [q, if_true]
    · simp only [q, if_false]
  · funext c i
    by_cases q : c = L.length
    · simp only [q, if_true]
      rfl
    · simp only [q, if_false]
theorem getD_app2 {L M : List gA} {c : Nat} : (L ++ M).getD c gD = if c < L.length then L.getD c gD else M.getD (c - L.length) gD := by
  rw [List.getD_eq_getElem?_getD, List.getD_eq_getElem?_getD, List.getD_eq_getElem?_getD]
  by_cases q : c < L.length
  · rw [List.getElem?_append_left q, if_pos q]
  · rw [List.getElem?_append_right (by omega), if_neg q]
theorem gl_gu {L : List gA} {c i r : Nat} (hc : c < L.length) : zgu (gl L) c i (some r) = gl (L.set c ((L.getD c gD).1, (L.getD c gD).2.1, (i, r) :: (L.getD c gD).2.2)) := by
  have e : ∀ (x : gA) (c' : Nat), (L.set c x).getD c' gD = if c' = c then x else L.getD c' gD := by
    intro x c'
    rw [List.getD_eq_getElem?_getD, List.getD_eq_getElem?_getD]
    by_cases q : c' = c
    · rw [if_pos q, q, List.getElem?_set_self hc]
      rfl
    · rw [if_neg q, List.getElem?_set_ne (by omega)]
  unfold zgu gl
  refine Prod.ext ?_ (Prod.ext ?_ (Prod.ext ?_ ?_))
  · simp only [List.length_set]
  · funext c'
    dsimp only
    rw [e]
    by_cases q : c' = c
    · rw [if_pos q, q]
    · rw [if_neg q]
  · funext c'
    dsimp only
    rw [e]
    by_cases q : c' = c
    · rw [if_pos q, q]
    · rw [if_neg q]
  · funext c' i'
    dsimp only
    rw [e]
    by_cases q : c' = c
    · rw [if_pos q, q]
      by_cases q2 : i' = i
      · rw [if_pos ⟨rfl, q2⟩, q2]
        simp [List.lookup]
      · have q3 : (i' == i) = false := by simpa using q2
        rw [if_neg (fun z => q2 z.2)]
        simp only [List.lookup, q3]
    · rw [if_neg q, if_neg (fun z => q z.1)]
theorem hl_u {W : List (Nat × Nat × Int)} {c i : Nat} {v : Int} : zu (hl W) c i v = hl ((c, i, v) :: W) := by
  funext c' i'
  unfold zu hl
  by_cases q : c' = c ∧ i' = i
  · rw [if_pos q, q.1, q.2]
    simp [List.find?]
  · rw [if_neg q]
    have : ((c == c') && (i == i')) = false := by
      by_cases q1 : c = c'
      · have q2 : ¬ i = i' := fun z => q ⟨q1.symm, z.symm⟩
        simp [q2]
      · simp [q1]
    simp only [List.find?, this]
theorem hl_no {W : List (Nat × Nat × Int)} {c i : Nat} (h : W.all (fun w => w.1 != c) = true) : hl W c i = 0 := by
  unfold hl
  have : W.find? (fun w => w.1 == c && w.2.1 == i) = none := by
    rw [List.find?_eq_none]
    intro w hw
    have := List.all_eq_true.mp h w hw
    simp only [bne_iff_ne, ne_eq] at this
    simp [this]
  rw [this]
theorem hl_n {W : List (Nat × Nat × Int)} {c : Nat} (h : W.all (fun w => w.1 != c) = true) : zhn (hl W) c = hl W := by
  funext c' i
  unfold zhn
  by_cases q : c' = c
  · rw [if_pos q, q, hl_no h]
  · rw [if_neg q]
theorem hl_m {W : List (Nat × Nat × Int)} {c n : Nat} (h : W.all (fun w => !(decide (c ≤ w.1) && decide (w.1 ≤ c + n))) = true) : zhm (hl W) c n = hl W := by
  funext c' i
  unfold zhm
  by_cases q : c ≤ c' ∧ c' ≤ c + n
  · rw [if_pos q, hl_no]
    rw [List.all_eq_true] at h ⊢
    intro w hw
    have := h w hw
    simp only [bne_iff_ne, ne_eq]
    intro e
    rw [e] at this
    simp [q] at this
  · rw [if_neg q]
theorem gl_gm {L : List gA} {kd ki n m : Nat} : zgm (gl L) kd ki n m = gl (L ++ (kd, n, (List.range n).map (fun i => (i, L.length + 1 + i))) :: List.replicate n (ki, m, [])) := by
  have lk : ∀ (n i : Nat), ((List.range n).map (fun i => (i, L.length + 1 + i))).lookup i = if i < n then some (L.length + 1 + i) else none := by
    intro n i
    induction n with
    | zero => rfl
    | succ n ih =>
      rw [List.range_succ, List.map_append, List.lookup_append, ih]
      by_cases q : i < n
      · rw [if_pos q, if_pos (by omega)]
        rfl
      · rw [if_neg q]
        by_cases q2 : i = n
        · rw [if_pos (by omega), q2]
          simp [List.lookup]
        · rw [if_neg (by omega)]
          simp [List.lookup, q2]
  have e : ∀ c, (L ++ (kd, n, (List.range n).map (fun i => (i, L.length + 1 + i))) :: List.replicate n (ki, m, [])).getD c gD = if c = L.length then (kd, n, (List.range n).map (fun i => (i, L.length + 1 + i))) else if L.length < c ∧ c ≤ L.length + n then (ki, m, []) else L.getD c gD := by
    intro c
    rw [getD_app2]
    by_cases q : c < L.length
    · rw [if_pos q, if_neg (by omega), if_neg (by omega)]
    · rw [if_neg q]
      by_cases q2 : c = L.length
      · rw [if_pos q2, q2, Nat.sub_self]
        rfl
      · rw [if_neg q2]
        obtain ⟨j, hj⟩ : ∃ j, c - L.length = j + 1 := ⟨c - L.length - 1, by omega⟩
        rw [hj, List.getD_cons_succ, List.getD_eq_getElem?_getD]
        by_cases q3 : j < n
        · rw [List.getElem?_replicate, if_pos q3, if_pos (by omega)]
          rfl
        · rw [List.getElem?_replicate, if_neg q3, if_neg (by omega), List.getD_eq_getElem?_getD, List.getElem?_eq_none (by omega)]
  unfold zgm gl
  simp only [e]
  refine Prod.ext ?_ (Prod.ext ?_ (Prod.ext ?_ ?_))
  · simp only [List.length_append, List.length_cons, List.length_replicate]
    omega
  · funext c
    dsimp only
    by_cases q : c = L.length
    · simp only [q, if_true]
    · simp only [q, if_false]
      by_cases q2 : L.length < c ∧ c ≤ L.length + n
      · simp only [q2, if_true, and_self]
      · simp only [q2, if_false]
  · funext c
    dsimp only
    by_cases q : c = L.length
    · simp only [q, if_true]
    · simp only [q, if_false]
      by_cases q2 : L.length < c ∧ c ≤ L.length + n
      · simp only [q2, if_true, and_self]
      · simp only [q2, if_false]
  · funext c i
    dsimp only
    by_cases q : c = L.length
    · simp only [q, if_true, lk]
    · simp only [q, if_false]
      by_cases q2 : L.length < c ∧ c ≤ L.length + n
      · simp only [q2, if_true, and_self]
        rfl
      · simp only [q2, if_false]
def cL0 : List gA := []
def cW0 : List (Nat × Nat × Int) := []
theorem cF1 : (gl cL0).1 = 0 := by decide +kernel
def cL1 : List gA := cL0 ++ [(7, 14, [])]
theorem cF2 : zgn (gl cL0) 7 14 = gl cL1 := gl_gn
theorem cF3 : zhn (hl cW0) 0 = hl cW0 := hl_n (by decide +kernel)
theorem cF4 : (gl cL1).2.1 0 = 7 := by decide +kernel
theorem cF5 : (gl cL1).1 = 1 := by decide +kernel
def cL2 : List gA := cL1 ++ [(12, 700, [])]
theorem cF6 : zgn (gl cL1) 12 700 = gl cL2 := gl_gn
theorem cF7 : zhn (hl cW0) 1 = hl cW0 := hl_n (by decide +kernel)
theorem cF8 : (gl cL2).2.1 0 = 7 := by decide +kernel
def cL3 : List gA := cL2.set 0 (7, 14, [(0, 1)])
theorem cF9 : zgu (gl cL2) 0 0 (some 1) = gl cL3 := by
  rw [gl_gu (by decide +kernel), show (((cL2.getD 0 gD).1, (cL2.getD 0 gD).2.1, (0, 1) :: (cL2.getD 0 gD).2.2) : gA) = (7, 14, [(0, 1)]) by decide +kernel]
  rfl
theorem cF10 : (gl cL3).2.1 0 = 7 := by decide +kernel
def cW1 : List (Nat × Nat × Int) := (0, 1, 0) :: cW0
theorem cF11 : zu (hl cW0) 0 1 0 = hl cW1 := hl_u
theorem cF12 : (gl cL3).1 = 2 := by decide +kernel
def cL4 : List gA := cL3 ++ [(3, 14, [])]
theorem cF13 : zgn (gl cL3) 3 14 = gl cL4 := gl_gn
theorem cF14 : zhn (hl cW1) 2 = hl cW1 := hl_n (by decide +kernel)
theorem cF15 : (gl cL4).2.1 2 = 3 := by decide +kernel
theorem cF16 : (gl cL4).2.1 2 = 3 := by decide +kernel
def cW2 : List (Nat × Nat × Int) := (2, 0, (-1)) :: cW1
theorem cF17 : zu (hl cW1) 2 0 (-1) = hl cW2 := hl_u
theorem cF18 : (gl cL4).2.1 2 = 3 := by decide +kernel
def cW3 : List (Nat × Nat × Int) := (2, 1, 0) :: cW2
theorem cF19 : zu (hl cW2) 2 1 0 = hl cW3 := hl_u
theorem cF20 : (gl cL4).1 = 3 := by decide +kernel
def cL5 : List gA := cL4 ++ [(12, 0, [])]
theorem cF21 : zgn (gl cL4) 12 0 = gl cL5 := gl_gn
theorem cF22 : zhn (hl cW3) 3 = hl cW3 := hl_n (by decide +kernel)
theorem cF23 : (gl cL5).2.1 2 = 3 := by decide +kernel
def cL6 : List gA := cL5.set 2 (3, 14, [(2, 3)])
theorem cF24 : zgu (gl cL5) 2 2 (some 3) = gl cL6 := by
  rw [gl_gu (by decide +kernel), show (((cL5.getD 2 gD).1, (cL5.getD 2 gD).2.1, (2, 3) :: (cL5.getD 2 gD).2.2) : gA) = (3, 14, [(2, 3)]) by decide +kernel]
  rfl
theorem cF25 : (gl cL6).2.1 2 = 3 := by decide +kernel
def cW4 : List (Nat × Nat × Int) := (2, 3, 0) :: cW3
theorem cF26 : zu (hl cW3) 2 3 0 = hl cW4 := hl_u
theorem cF27 : (gl cL6).2.1 2 = 3 := by decide +kernel
def cW5 : List (Nat × Nat × Int) := (2, 4, 0) :: cW4
theorem cF28 : zu (hl cW4) 2 4 0 = hl cW5 := hl_u
theorem cF29 : (gl cL6).2.1 2 = 3 := by decide +kernel
def cW6 : List (Nat × Nat × Int) := (2, 5, 0) :: cW5
theorem cF30 : zu (hl cW5) 2 5 0 = hl cW6 := hl_u
theorem cF31 : (gl cL6).2.1 2 = 3 := by decide +kernel
def cW7 : List (Nat × Nat × Int) := (2, 6, 0) :: cW6
theorem cF32 : zu (hl cW6) 2 6 0 = hl cW7 := hl_u
theorem cF33 : (gl cL6).2.1 2 = 3 := by decide +kernel
def cW8 : List (Nat × Nat × Int) := (2, 7, 0) :: cW7
theorem cF34 : zu (hl cW7) 2 7 0 = hl cW8 := hl_u
theorem cF35 : (gl cL6).2.1 2 = 3 := by decide +kernel
def cW9 : List (Nat × Nat × Int) := (2, 8, 0) :: cW8
theorem cF36 : zu (hl cW8) 2 8 0 = hl cW9 := hl_u
theorem cF37 : (gl cL6).1 = 4 := by decide +kernel
def cL7 : List gA := cL6 ++ [(10, 7, [])]
theorem cF38 : zgn (gl cL6) 10 7 = gl cL7 := gl_gn
theorem cF39 : zhn (hl cW9) 4 = hl cW9 := hl_n (by decide +kernel)
theorem cF40 : (gl cL7).2.1 2 = 3 := by decide +kernel
def cL8 : List gA := cL7.set 2 (3, 14, [(9, 4), (2, 3)])
theorem cF41 : zgu (gl cL7) 2 9 (some 4) = gl cL8 := by
  rw [gl_gu (by decide +kernel), show (((cL7.getD 2 gD).1, (cL7.getD 2 gD).2.1, (9, 4) :: (cL7.getD 2 gD).2.2) : gA) = (3, 14, [(9, 4), (2, 3)]) by decide +kernel]
  rfl
theorem cF42 : (gl cL8).1 = 5 := by decide +kernel
def cL9 : List gA := cL8 ++ [(10, 7, [])]
theorem cF43 : zgn (gl cL8) 10 7 = gl cL9 := gl_gn
theorem cF44 : zhn (hl cW9) 5 = hl cW9 := hl_n (by decide +kernel)
theorem cF45 : (gl cL9).2.1 2 = 3 := by decide +kernel
def cL10 : List gA := cL9.set 2 (3, 14, [(10, 5), (9, 4), (2, 3)])
theorem cF46 : zgu (gl cL9) 2 10 (some 5) = gl cL10 := by
  rw [gl_gu (by decide +kernel), show (((cL9.getD 2 gD).1, (cL9.getD 2 gD).2.1, (10, 5) :: (cL9.getD 2 gD).2.2) : gA) = (3, 14, [(10, 5), (9, 4), (2, 3)]) by decide +kernel]
  rfl
theorem cF47 : (gl cL10).2.1 2 = 3 := by decide +kernel
def cW10 : List (Nat × Nat × Int) := (2, 11, 0) :: cW9
theorem cF48 : zu (hl cW9) 2 11 0 = hl cW10 := hl_u
theorem cF49 : (gl cL10).2.1 2 = 3 := by decide +kernel
def cW11 : List (Nat × Nat × Int) := (2, 12, 0) :: cW10
theorem cF50 : zu (hl cW10) 2 12 0 = hl cW11 := hl_u
theorem cF51 : (gl cL10).2.1 2 = 3 := by decide +kernel
def cW12 : List (Nat × Nat × Int) := (2, 13, 0) :: cW11
theorem cF52 : zu (hl cW11) 2 13 0 = hl cW12 := hl_u
theorem cK1 {d : Nat} {Q : zQ} : zRunD ztb zmt' (d + 1) 13 [zR (some 2)] (gl cL4) (hl cW1) Q ↔ Q none (gl cL10) (hl cW12) := by
  rw [r13]
  simp only [e13_0, e13_1, e13_4, e13_5, e13_6, e13_9, e13_10, e13_11, e13_14, e13_15, e13_16, e13_18, e13_21, e13_22, e13_23, e13_26, e13_27, e13_28, e13_31, e13_32, e13_33, e13_36, e13_37, e13_38, e13_41, e13_42, e13_43, e13_46, e13_47, e13_48, e13_51, e13_52, e13_54, e13_56, e13_59, e13_60, e13_62, e13_64, e13_67, e13_68, e13_69, e13_72, e13_73, e13_74, e13_77, e13_78, e13_79, e13_82, zs0, zsI, zsL, zsR, ztl1, ztl0, zc0, zcI, zcL, zcR, true_and, and_true, true_implies, false_implies, implies_true, not_true_eq_false, not_false_eq_true, and_self, Int.toNat_natCast, Nat.reduceAdd, Nat.reduceLeDiff, Nat.reduceLT, forall_eq', Option.some.injEq, zarR, zarI, zarL, zle, zq0, zq1, zq2, zq3, zq4, zq5, zq6, zq8, zq9, zq10, zq20, zq7, zq12, zq24, zq40, zq41, zq48, zq100, zq120, zq123, zq480, zq492, zq700, zq729, zq2187, zq2916, zq8748, ne_eq, Int.reduceEq, Int.reduceLT, Int.reduceLE, Int.reduceToNat, Int.reduceMul, Int.reduceAdd, Int.reduceNeg, Nat.reduceMul, or_true, true_or, cF16, cF17, cF18, cF19, cF20, cF21, cF22, cF23, cF24, cF25, cF26, cF27, cF28, cF29, cF30, cF31, cF32, cF33, cF34, cF35, cF36, cF37, cF38, cF39, cF40, cF41, cF42, cF43, cF44, cF45, cF46, cF47, cF48, cF49, cF50, cF51, cF52]
theorem cF53 : (gl cL10).2.1 0 = 7 := by decide +kernel
def cL11 : List gA := cL10.set 0 (7, 14, [(2, 2), (0, 1)])
theorem cF54 : zgu (gl cL10) 0 2 (some 2) = gl cL11 := by
  rw [gl_gu (by decide +kernel), show (((cL10.getD 0 gD).1, (cL10.getD 0 gD).2.1, (2, 2) :: (cL10.getD 0 gD).2.2) : gA) = (7, 14, [(2, 2), (0, 1)]) by decide +kernel]
  rfl
theorem cF55 : (gl cL11).1 = 6 := by decide +kernel
def cL12 : List gA := cL11 ++ [(5, 14, [])]
theorem cF56 : zgn (gl cL11) 5 14 = gl cL12 := gl_gn
theorem cF57 : zhn (hl cW12) 6 = hl cW12 := hl_n (by decide +kernel)
theorem cF58 : (gl cL12).2.1 6 = 5 := by decide +kernel
theorem cF59 : (gl cL12).1 = 7 := by decide +kernel
def cL13 : List gA := cL12 ++ [(10, 3, [])]
theorem cF60 : zgn (gl cL12) 10 3 = gl cL13 := gl_gn
theorem cF61 : zhn (hl cW12) 7 = hl cW12 := hl_n (by decide +kernel)
theorem cF62 : (gl cL13).2.1 6 = 5 := by decide +kernel
def cL14 : List gA := cL13.set 6 (5, 14, [(0, 7)])
theorem cF63 : zgu (gl cL13) 6 0 (some 7) = gl cL14 := by
  rw [gl_gu (by decide +kernel), show (((cL13.getD 6 gD).1, (cL13.getD 6 gD).2.1, (0, 7) :: (cL13.getD 6 gD).2.2) : gA) = (5, 14, [(0, 7)]) by decide +kernel]
  rfl
theorem cF64 : (gl cL14).1 = 8 := by decide +kernel
def cL15 : List gA := cL14 ++ [(10, 3, [])]
theorem cF65 : zgn (gl cL14) 10 3 = gl cL15 := gl_gn
theorem cF66 : zhn (hl cW12) 8 = hl cW12 := hl_n (by decide +kernel)
theorem cF67 : (gl cL15).2.1 6 = 5 := by decide +kernel
def cL16 : List gA := cL15.set 6 (5, 14, [(1, 8), (0, 7)])
theorem cF68 : zgu (gl cL15) 6 1 (some 8) = gl cL16 := by
  rw [gl_gu (by decide +kernel), show (((cL15.getD 6 gD).1, (cL15.getD 6 gD).2.1, (1, 8) :: (cL15.getD 6 gD).2.2) : gA) = (5, 14, [(1, 8), (0, 7)]) by decide +kernel]
  rfl
theorem cF69 : (gl cL16).1 = 9 := by decide +kernel
def cL17 : List gA := cL16 ++ [(10, 3, [])]
theorem cF70 : zgn (gl cL16) 10 3 = gl cL17 := gl_gn
theorem cF71 : zhn (hl cW12) 9 = hl cW12 := hl_n (by decide +kernel)
theorem cF72 : (gl cL17).2.1 6 = 5 := by decide +kernel
def cL18 : List gA := cL17.set 6 (5, 14, [(2, 9), (1, 8), (0, 7)])
theorem cF73 : zgu (gl cL17) 6 2 (some 9) = gl cL18 := by
  rw [gl_gu (by decide +kernel), show (((cL17.getD 6 gD).1, (cL17.getD 6 gD).2.1, (2, 9) :: (cL17.getD 6 gD).2.2) : gA) = (5, 14, [(2, 9), (1, 8), (0, 7)]) by decide +kernel]
  rfl
theorem cF74 : (gl cL18).1 = 10 := by decide +kernel
def cL19 : List gA := cL18 ++ [(10, 4, [])]
theorem cF75 : zgn (gl cL18) 10 4 = gl cL19 := gl_gn
theorem cF76 : zhn (hl cW12) 10 = hl cW12 := hl_n (by decide +kernel)
theorem cF77 : (gl cL19).2.1 6 = 5 := by decide +kernel
def cL20 : List gA := cL19.set 6 (5, 14, [(3, 10), (2, 9), (1, 8), (0, 7)])
theorem cF78 : zgu (gl cL19) 6 3 (some 10) = gl cL20 := by
  rw [gl_gu (by decide +kernel), show (((cL19.getD 6 gD).1, (cL19.getD 6 gD).2.1, (3, 10) :: (cL19.getD 6 gD).2.2) : gA) = (5, 14, [(3, 10), (2, 9), (1, 8), (0, 7)]) by decide +kernel]
  rfl
theorem cF79 : (gl cL20).1 = 11 := by decide +kernel
def cL21 : List gA := cL20 ++ [(10, 4, [])]
theorem cF80 : zgn (gl cL20) 10 4 = gl cL21 := gl_gn
theorem cF81 : zhn (hl cW12) 11 = hl cW12 := hl_n (by decide +kernel)
theorem cF82 : (gl cL21).2.1 6 = 5 := by decide +kernel
def cL22 : List gA := cL21.set 6 (5, 14, [(4, 11), (3, 10), (2, 9), (1, 8), (0, 7)])
theorem cF83 : zgu (gl cL21) 6 4 (some 11) = gl cL22 := by
  rw [gl_gu (by decide +kernel), show (((cL21.getD 6 gD).1, (cL21.getD 6 gD).2.1, (4, 11) :: (cL21.getD 6 gD).2.2) : gA) = (5, 14, [(4, 11), (3, 10), (2, 9), (1, 8), (0, 7)]) by decide +kernel]
  rfl
theorem cF84 : (gl cL22).1 = 12 := by decide +kernel
def cL23 : List gA := cL22 ++ [(10, 4, [])]
theorem cF85 : zgn (gl cL22) 10 4 = gl cL23 := gl_gn
theorem cF86 : zhn (hl cW12) 12 = hl cW12 := hl_n (by decide +kernel)
theorem cF87 : (gl cL23).2.1 6 = 5 := by decide +kernel
def cL24 : List gA := cL23.set 6 (5, 14, [(5, 12), (4, 11), (3, 10), (2, 9), (1, 8), (0, 7)])
theorem cF88 : zgu (gl cL23) 6 5 (some 12) = gl cL24 := by
  rw [gl_gu (by decide +kernel), show (((cL23.getD 6 gD).1, (cL23.getD 6 gD).2.1, (5, 12) :: (cL23.getD 6 gD).2.2) : gA) = (5, 14, [(5, 12), (4, 11), (3, 10), (2, 9), (1, 8), (0, 7)]) by decide +kernel]
  rfl
theorem cF89 : (gl cL24).1 = 13 := by decide +kernel
def cL25 : List gA := cL24 ++ [(10, 4, [])]
theorem cF90 : zgn (gl cL24) 10 4 = gl cL25 := gl_gn
theorem cF91 : zhn (hl cW12) 13 = hl cW12 := hl_n (by decide +kernel)
theorem cF92 : (gl cL25).2.1 6 = 5 := by decide +kernel
def cL26 : List gA := cL25.set 6 (5, 14, [(6, 13), (5, 12), (4, 11), (3, 10), (2, 9), (1, 8), (0, 7)])
theorem cF93 : zgu (gl cL25) 6 6 (some 13) = gl cL26 := by
  rw [gl_gu (by decide +kernel), show (((cL25.getD 6 gD).1, (cL25.getD 6 gD).2.1, (6, 13) :: (cL25.getD 6 gD).2.2) : gA) = (5, 14, [(6, 13), (5, 12), (4, 11), (3, 10), (2, 9), (1, 8), (0, 7)]) by decide +kernel]
  rfl
theorem cF94 : (gl cL26).1 = 14 := by decide +kernel
def cL27 : List gA := cL26 ++ [(10, 4, [])]
theorem cF95 : zgn (gl cL26) 10 4 = gl cL27 := gl_gn
theorem cF96 : zhn (hl cW12) 14 = hl cW12 := hl_n (by decide +kernel)
theorem cF97 : (gl cL27).2.1 6 = 5 := by decide +kernel
def cL28 : List gA := cL27.set 6 (5, 14, [(7, 14), (6, 13), (5, 12), (4, 11), (3, 10), (2, 9), (1, 8), (0, 7)])
theorem cF98 : zgu (gl cL27) 6 7 (some 14) = gl cL28 := by
  rw [gl_gu (by decide +kernel), show (((cL27.getD 6 gD).1, (cL27.getD 6 gD).2.1, (7, 14) :: (cL27.getD 6 gD).2.2) : gA) = (5, 14, [(7, 14), (6, 13), (5, 12), (4, 11), (3, 10), (2, 9), (1, 8), (0, 7)]) by decide +kernel]
  rfl
theorem cF99 : (gl cL28).1 = 15 := by decide +kernel
def cL29 : List gA := cL28 ++ [(10, 3, [])]
theorem cF100 : zgn (gl cL28) 10 3 = gl cL29 := gl_gn
theorem cF101 : zhn (hl cW12) 15 = hl cW12 := hl_n (by decide +kernel)
theorem cF102 : (gl cL29).2.1 6 = 5 := by decide +kernel
def cL30 : List gA := cL29.set 6 (5, 14, [(8, 15), (7, 14), (6, 13), (5, 12), (4, 11), (3, 10), (2, 9), (1, 8), (0, 7)])
theorem cF103 : zgu (gl cL29) 6 8 (some 15) = gl cL30 := by
  rw [gl_gu (by decide +kernel), show (((cL29.getD 6 gD).1, (cL29.getD 6 gD).2.1, (8, 15) :: (cL29.getD 6 gD).2.2) : gA) = (5, 14, [(8, 15), (7, 14), (6, 13), (5, 12), (4, 11), (3, 10), (2, 9), (1, 8), (0, 7)]) by decide +kernel]
  rfl
theorem cF104 : (gl cL30).2.1 6 = 5 := by decide +kernel
def cW13 : List (Nat × Nat × Int) := (6, 9, 0) :: cW12
theorem cF105 : zu (hl cW12) 6 9 0 = hl cW13 := hl_u
theorem cF106 : (gl cL30).2.1 6 = 5 := by decide +kernel
def cW14 : List (Nat × Nat × Int) := (6, 10, 0) :: cW13
theorem cF107 : zu (hl cW13) 6 10 0 = hl cW14 := hl_u
theorem cF108 : (gl cL30).2.1 6 = 5 := by decide +kernel
def cW15 : List (Nat × Nat × Int) := (6, 11, 0) :: cW14
theorem cF109 : zu (hl cW14) 6 11 0 = hl cW15 := hl_u
theorem cF110 : (gl cL30).2.1 6 = 5 := by decide +kernel
def cW16 : List (Nat × Nat × Int) := (6, 12, 0) :: cW15
theorem cF111 : zu (hl cW15) 6 12 0 = hl cW16 := hl_u
theorem cF112 : (gl cL30).2.1 6 = 5 := by decide +kernel
def cW17 : List (Nat × Nat × Int) := (6, 13, 0) :: cW16
theorem cF113 : zu (hl cW16) 6 13 0 = hl cW17 := hl_u
theorem cK2 {d : Nat} {Q : zQ} : zRunD ztb zmt' (d + 1) 45 [zR (some 6)] (gl cL12) (hl cW12) Q ↔ Q none (gl cL30) (hl cW17) := by
  rw [r45]
  simp only [e45_0, e45_1, e45_4, e45_5, e45_6, e45_8, e45_11, e45_12, e45_13, e45_15, e45_18, e45_19, e45_20, e45_22, e45_25, e45_26, e45_27, e45_29, e45_32, e45_33, e45_34, e45_36, e45_39, e45_40, e45_41, e45_43, e45_46, e45_47, e45_48, e45_50, e45_53, e45_54, e45_55, e45_57, e45_60, e45_61, e45_62, e45_64, e45_67, e45_68, e45_69, e45_72, e45_73, e45_74, e45_77, e45_78, e45_79, e45_82, e45_83, e45_84, e45_87, e45_88, e45_89, e45_92, zs0, zsI, zsL, zsR, ztl1, ztl0, zc0, zcI, zcL, zcR, true_and, and_true, true_implies, false_implies, implies_true, not_true_eq_false, not_false_eq_true, and_self, Int.toNat_natCast, Nat.reduceAdd, Nat.reduceLeDiff, Nat.reduceLT, forall_eq', Option.some.injEq, zarR, zarI, zarL, zle, zq0, zq1, zq2, zq3, zq4, zq5, zq6, zq8, zq9, zq10, zq20, zq7, zq12, zq24, zq40, zq41, zq48, zq100, zq120, zq123, zq480, zq492, zq700, zq729, zq2187, zq2916, zq8748, ne_eq, Int.reduceEq, Int.reduceLT, Int.reduceLE, Int.reduceToNat, Int.reduceMul, Int.reduceAdd, Int.reduceNeg, Nat.reduceMul, or_true, true_or, cF59, cF60, cF61, cF62, cF63, cF64, cF65, cF66, cF67, cF68, cF69, cF70, cF71, cF72, cF73, cF74, cF75, cF76, cF77, cF78, cF79, cF80, cF81, cF82, cF83, cF84, cF85, cF86, cF87, cF88, cF89, cF90, cF91, cF92, cF93, cF94, cF95, cF96, cF97, cF98, cF99, cF100, cF101, cF102, cF103, cF104, cF105, cF106, cF107, cF108, cF109, cF110, cF111, cF112, cF113]
theorem cF114 : (gl cL30).2.1 0 = 7 := by decide +kernel
def cL31 : List gA := cL30.set 0 (7, 14, [(3, 6), (2, 2), (0, 1)])
theorem cF115 : zgu (gl cL30) 0 3 (some 6) = gl cL31 := by
  rw [gl_gu (by decide +kernel), show (((cL30.getD 0 gD).1, (cL30.getD 0 gD).2.1, (3, 6) :: (cL30.getD 0 gD).2.2) : gA) = (7, 14, [(3, 6), (2, 2), (0, 1)]) by decide +kernel]
  rfl
theorem cF116 : (gl cL31).1 = 16 := by decide +kernel
def cL32 : List gA := cL31 ++ [(6, 9, [])]
theorem cF117 : zgn (gl cL31) 6 9 = gl cL32 := gl_gn
theorem cF118 : zhn (hl cW17) 16 = hl cW17 := hl_n (by decide +kernel)
theorem cF119 : (gl cL32).2.1 16 = 6 := by decide +kernel
theorem cF120 : (gl cL32).1 = 17 := by decide +kernel
def cL33 : List gA := cL32 ++ [(1, 5, [])]
theorem cF121 : zgn (gl cL32) 1 5 = gl cL33 := gl_gn
theorem cF122 : zhn (hl cW17) 17 = hl cW17 := hl_n (by decide +kernel)
theorem cF123 : (gl cL33).2.1 17 = 1 := by decide +kernel
theorem cF124 : (gl cL33).1 = 18 := by decide +kernel
def cL34 : List gA := cL33 ++ [(5, 14, [])]
theorem cF125 : zgn (gl cL33) 5 14 = gl cL34 := gl_gn
theorem cF126 : zhn (hl cW17) 18 = hl cW17 := hl_n (by decide +kernel)
theorem cF127 : (gl cL34).2.1 18 = 5 := by decide +kernel
theorem cF128 : (gl cL34).1 = 19 := by decide +kernel
def cL35 : List gA := cL34 ++ [(10, 3, [])]
theorem cF129 : zgn (gl cL34) 10 3 = gl cL35 := gl_gn
theorem cF130 : zhn (hl cW17) 19 = hl cW17 := hl_n (by decide +kernel)
theorem cF131 : (gl cL35).2.1 18 = 5 := by decide +kernel
def cL36 : List gA := cL35.set 18 (5, 14, [(0, 19)])
theorem cF132 : zgu (gl cL35) 18 0 (some 19) = gl cL36 := by
  rw [gl_gu (by decide +kernel), show (((cL35.getD 18 gD).1, (cL35.getD 18 gD).2.1, (0, 19) :: (cL35.getD 18 gD).2.2) : gA) = (5, 14, [(0, 19)]) by decide +kernel]
  rfl
theorem cF133 : (gl cL36).1 = 20 := by decide +kernel
def cL37 : List gA := cL36 ++ [(10, 3, [])]
theorem cF134 : zgn (gl cL36) 10 3 = gl cL37 := gl_gn
theorem cF135 : zhn (hl cW17) 20 = hl cW17 := hl_n (by decide +kernel)
theorem cF136 : (gl cL37).2.1 18 = 5 := by decide +kernel
def cL38 : List gA := cL37.set 18 (5, 14, [(1, 20), (0, 19)])
theorem cF137 : zgu (gl cL37) 18 1 (some 20) = gl cL38 := by
  rw [gl_gu (by decide +kernel), show (((cL37.getD 18 gD).1, (cL37.getD 18 gD).2.1, (1, 20) :: (cL37.getD 18 gD).2.2) : gA) = (5, 14, [(1, 20), (0, 19)]) by decide +kernel]
  rfl
theorem cF138 : (gl cL38).1 = 21 := by decide +kernel
def cL39 : List gA := cL38 ++ [(10, 3, [])]
theorem cF139 : zgn (gl cL38) 10 3 = gl cL39 := gl_gn
theorem cF140 : zhn (hl cW17) 21 = hl cW17 := hl_n (by decide +kernel)
theorem cF141 : (gl cL39).2.1 18 = 5 := by decide +kernel
def cL40 : List gA := cL39.set 18 (5, 14, [(2, 21), (1, 20), (0, 19)])
theorem cF142 : zgu (gl cL39) 18 2 (some 21) = gl cL40 := by
  rw [gl_gu (by decide +kernel), show (((cL39.getD 18 gD).1, (cL39.getD 18 gD).2.1, (2, 21) :: (cL39.getD 18 gD).2.2) : gA) = (5, 14, [(2, 21), (1, 20), (0, 19)]) by decide +kernel]
  rfl
theorem cF143 : (gl cL40).1 = 22 := by decide +kernel
def cL41 : List gA := cL40 ++ [(10, 4, [])]
theorem cF144 : zgn (gl cL40) 10 4 = gl cL41 := gl_gn
theorem cF145 : zhn (hl cW17) 22 = hl cW17 := hl_n (by decide +kernel)
theorem cF146 : (gl cL41).2.1 18 = 5 := by decide +kernel
def cL42 : List gA := cL41.set 18 (5, 14, [(3, 22), (2, 21), (1, 20), (0, 19)])
theorem cF147 : zgu (gl cL41) 18 3 (some 22) = gl cL42 := by
  rw [gl_gu (by decide +kernel), show (((cL41.getD 18 gD).1, (cL41.getD 18 gD).2.1, (3, 22) :: (cL41.getD 18 gD).2.2) : gA) = (5, 14, [(3, 22), (2, 21), (1, 20), (0, 19)]) by decide +kernel]
  rfl
theorem cF148 : (gl cL42).1 = 23 := by decide +kernel
def cL43 : List gA := cL42 ++ [(10, 4, [])]
theorem cF149 : zgn (gl cL42) 10 4 = gl cL43 := gl_gn
theorem cF150 : zhn (hl cW17) 23 = hl cW17 := hl_n (by decide +kernel)
theorem cF151 : (gl cL43).2.1 18 = 5 := by decide +kernel
def cL44 : List gA := cL43.set 18 (5, 14, [(4, 23), (3, 22), (2, 21), (1, 20), (0, 19)])
theorem cF152 : zgu (gl cL43) 18 4 (some 23) = gl cL44 := by
  rw [gl_gu (by decide +kernel), show (((cL43.getD 18 gD).1, (cL43.getD 18 gD).2.1, (4, 23) :: (cL43.getD 18 gD).2.2) : gA) = (5, 14, [(4, 23), (3, 22), (2, 21), (1, 20), (0, 19)]) by decide +kernel]
  rfl
theorem cF153 : (gl cL44).1 = 24 := by decide +kernel
def cL45 : List gA := cL44 ++ [(10, 4, [])]
theorem cF154 : zgn (gl cL44) 10 4 = gl cL45 := gl_gn
theorem cF155 : zhn (hl cW17) 24 = hl cW17 := hl_n (by decide +kernel)
theorem cF156 : (gl cL45).2.1 18 = 5 := by decide +kernel
def cL46 : List gA := cL45.set 18 (5, 14, [(5, 24), (4, 23), (3, 22), (2, 21), (1, 20), (0, 19)])
theorem cF157 : zgu (gl cL45) 18 5 (some 24) = gl cL46 := by
  rw [gl_gu (by decide +kernel), show (((cL45.getD 18 gD).1, (cL45.getD 18 gD).2.1, (5, 24) :: (cL45.getD 18 gD).2.2) : gA) = (5, 14, [(5, 24), (4, 23), (3, 22), (2, 21), (1, 20), (0, 19)]) by decide +kernel]
  rfl
theorem cF158 : (gl cL46).1 = 25 := by decide +kernel
def cL47 : List gA := cL46 ++ [(10, 4, [])]
theorem cF159 : zgn (gl cL46) 10 4 = gl cL47 := gl_gn
theorem cF160 : zhn (hl cW17) 25 = hl cW17 := hl_n (by decide +kernel)
theorem cF161 : (gl cL47).2.1 18 = 5 := by decide +kernel
def cL48 : List gA := cL47.set 18 (5, 14, [(6, 25), (5, 24), (4, 23), (3, 22), (2, 21), (1, 20), (0, 19)])
theorem cF162 : zgu (gl cL47) 18 6 (some 25) = gl cL48 := by
  rw [gl_gu (by decide +kernel), show (((cL47.getD 18 gD).1, (cL47.getD 18 gD).2.1, (6, 25) :: (cL47.getD 18 gD).2.2) : gA) = (5, 14, [(6, 25), (5, 24), (4, 23), (3, 22), (2, 21), (1, 20), (0, 19)]) by decide +kernel]
  rfl
theorem cF163 : (gl cL48).1 = 26 := by decide +kernel
def cL49 : List gA := cL48 ++ [(10, 4, [])]
theorem cF164 : zgn (gl cL48) 10 4 = gl cL49 := gl_gn
theorem cF165 : zhn (hl cW17) 26 = hl cW17 := hl_n (by decide +kernel)
theorem cF166 : (gl cL49).2.1 18 = 5 := by decide +kernel
def cL50 : List gA := cL49.set 18 (5, 14, [(7, 26), (6, 25), (5, 24), (4, 23), (3, 22), (2, 21), (1, 20), (0, 19)])
theorem cF167 : zgu (gl cL49) 18 7 (some 26) = gl cL50 := by
  rw [gl_gu (by decide +kernel), show (((cL49.getD 18 gD).1, (cL49.getD 18 gD).2.1, (7, 26) :: (cL49.getD 18 gD).2.2) : gA) = (5, 14, [(7, 26), (6, 25), (5, 24), (4, 23), (3, 22), (2, 21), (1, 20), (0, 19)]) by decide +kernel]
  rfl
theorem cF168 : (gl cL50).1 = 27 := by decide +kernel
def cL51 : List gA := cL50 ++ [(10, 3, [])]
theorem cF169 : zgn (gl cL50) 10 3 = gl cL51 := gl_gn
theorem cF170 : zhn (hl cW17) 27 = hl cW17 := hl_n (by decide +kernel)
theorem cF171 : (gl cL51).2.1 18 = 5 := by decide +kernel
def cL52 : List gA := cL51.set 18 (5, 14, [(8, 27), (7, 26), (6, 25), (5, 24), (4, 23), (3, 22), (2, 21), (1, 20), (0, 19)])
theorem cF172 : zgu (gl cL51) 18 8 (some 27) = gl cL52 := by
  rw [gl_gu (by decide +kernel), show (((cL51.getD 18 gD).1, (cL51.getD 18 gD).2.1, (8, 27) :: (cL51.getD 18 gD).2.2) : gA) = (5, 14, [(8, 27), (7, 26), (6, 25), (5, 24), (4, 23), (3, 22), (2, 21), (1, 20), (0, 19)]) by decide +kernel]
  rfl
theorem cF173 : (gl cL52).2.1 18 = 5 := by decide +kernel
def cW18 : List (Nat × Nat × Int) := (18, 9, 0) :: cW17
theorem cF174 : zu (hl cW17) 18 9 0 = hl cW18 := hl_u
theorem cF175 : (gl cL52).2.1 18 = 5 := by decide +kernel
def cW19 : List (Nat × Nat × Int) := (18, 10, 0) :: cW18
theorem cF176 : zu (hl cW18) 18 10 0 = hl cW19 := hl_u
theorem cF177 : (gl cL52).2.1 18 = 5 := by decide +kernel
def cW20 : List (Nat × Nat × Int) := (18, 11, 0) :: cW19
theorem cF178 : zu (hl cW19) 18 11 0 = hl cW20 := hl_u
theorem cF179 : (gl cL52).2.1 18 = 5 := by decide +kernel
def cW21 : List (Nat × Nat × Int) := (18, 12, 0) :: cW20
theorem cF180 : zu (hl cW20) 18 12 0 = hl cW21 := hl_u
theorem cF181 : (gl cL52).2.1 18 = 5 := by decide +kernel
def cW22 : List (Nat × Nat × Int) := (18, 13, 0) :: cW21
theorem cF182 : zu (hl cW21) 18 13 0 = hl cW22 := hl_u
theorem cK3 {d : Nat} {Q : zQ} : zRunD ztb zmt' (d + 1) 45 [zR (some 18)] (gl cL34) (hl cW17) Q ↔ Q none (gl cL52) (hl cW22) := by
  rw [r45]
  simp only [e45_0, e45_1, e45_4, e45_5, e45_6, e45_8, e45_11, e45_12, e45_13, e45_15, e45_18, e45_19, e45_20, e45_22, e45_25, e45_26, e45_27, e45_29, e45_32, e45_33, e45_34, e45_36, e45_39, e45_40, e45_41, e45_43, e45_46, e45_47, e45_48, e45_50, e45_53, e45_54, e45_55, e45_57, e45_60, e45_61, e45_62, e45_64, e45_67, e45_68, e45_69, e45_72, e45_73, e45_74, e45_77, e45_78, e45_79, e45_82, e45_83, e45_84, e45_87, e45_88, e45_89, e45_92, zs0, zsI, zsL, zsR, ztl1, ztl0, zc0, zcI, zcL, zcR, true_and, and_true, true_implies, false_implies, implies_true, not_true_eq_false, not_false_eq_true, and_self, Int.toNat_natCast, Nat.reduceAdd, Nat.reduceLeDiff, Nat.reduceLT, forall_eq', Option.some.injEq, zarR, zarI, zarL, zle, zq0, zq1, zq2, zq3, zq4, zq5, zq6, zq8, zq9, zq10, zq20, zq7, zq12, zq24, zq40, zq41, zq48, zq100, zq120, zq123, zq480, zq492, zq700, zq729, zq2187, zq2916, zq8748, ne_eq, Int.reduceEq, Int.reduceLT, Int.reduceLE, Int.reduceToNat, Int.reduceMul, Int.reduceAdd, Int.reduceNeg, Nat.reduceMul, or_true, true_or, cF128, cF129, cF130, cF131, cF132, cF133, cF134, cF135, cF136, cF137, cF138, cF139, cF140, cF141, cF142, cF143, cF144, cF145, cF146, cF147, cF148, cF149, cF150, cF151, cF152, cF153, cF154, cF155, cF156, cF157, cF158, cF159, cF160, cF161, cF162, cF163, cF164, cF165, cF166, cF167, cF168, cF169, cF170, cF171, cF172, cF173, cF174, cF175, cF176, cF177, cF178, cF179, cF180, cF181, cF182]
theorem cF183 : (gl cL52).2.1 17 = 1 := by decide +kernel
def cL53 : List gA := cL52.set 17 (1, 5, [(0, 18)])
theorem cF184 : zgu (gl cL52) 17 0 (some 18) = gl cL53 := by
  rw [gl_gu (by decide +kernel), show (((cL52.getD 17 gD).1, (cL52.getD 17 gD).2.1, (0, 18) :: (cL52.getD 17 gD).2.2) : gA) = (1, 5, [(0, 18)]) by decide +kernel]
  rfl
theorem cF185 : (gl cL53).1 = 28 := by decide +kernel
def cL54 : List gA := cL53 ++ [(10, 3, [])]
theorem cF186 : zgn (gl cL53) 10 3 = gl cL54 := gl_gn
theorem cF187 : zhn (hl cW22) 28 = hl cW22 := hl_n (by decide +kernel)
theorem cF188 : (gl cL54).2.1 17 = 1 := by decide +kernel
def cL55 : List gA := cL54.set 17 (1, 5, [(1, 28), (0, 18)])
theorem cF189 : zgu (gl cL54) 17 1 (some 28) = gl cL55 := by
  rw [gl_gu (by decide +kernel), show (((cL54.getD 17 gD).1, (cL54.getD 17 gD).2.1, (1, 28) :: (cL54.getD 17 gD).2.2) : gA) = (1, 5, [(1, 28), (0, 18)]) by decide +kernel]
  rfl
theorem cF190 : (gl cL55).1 = 29 := by decide +kernel
def cL56 : List gA := cL55 ++ [(10, 3, [])]
theorem cF191 : zgn (gl cL55) 10 3 = gl cL56 := gl_gn
theorem cF192 : zhn (hl cW22) 29 = hl cW22 := hl_n (by decide +kernel)
theorem cF193 : (gl cL56).2.1 17 = 1 := by decide +kernel
def cL57 : List gA := cL56.set 17 (1, 5, [(2, 29), (1, 28), (0, 18)])
theorem cF194 : zgu (gl cL56) 17 2 (some 29) = gl cL57 := by
  rw [gl_gu (by decide +kernel), show (((cL56.getD 17 gD).1, (cL56.getD 17 gD).2.1, (2, 29) :: (cL56.getD 17 gD).2.2) : gA) = (1, 5, [(2, 29), (1, 28), (0, 18)]) by decide +kernel]
  rfl
theorem cF195 : (gl cL57).1 = 30 := by decide +kernel
def cL58 : List gA := cL57 ++ [(10, 4, [])]
theorem cF196 : zgn (gl cL57) 10 4 = gl cL58 := gl_gn
theorem cF197 : zhn (hl cW22) 30 = hl cW22 := hl_n (by decide +kernel)
theorem cF198 : (gl cL58).2.1 17 = 1 := by decide +kernel
def cL59 : List gA := cL58.set 17 (1, 5, [(3, 30), (2, 29), (1, 28), (0, 18)])
theorem cF199 : zgu (gl cL58) 17 3 (some 30) = gl cL59 := by
  rw [gl_gu (by decide +kernel), show (((cL58.getD 17 gD).1, (cL58.getD 17 gD).2.1, (3, 30) :: (cL58.getD 17 gD).2.2) : gA) = (1, 5, [(3, 30), (2, 29), (1, 28), (0, 18)]) by decide +kernel]
  rfl
theorem cF200 : (gl cL59).2.1 17 = 1 := by decide +kernel
def cW23 : List (Nat × Nat × Int) := (17, 4, 0) :: cW22
theorem cF201 : zu (hl cW22) 17 4 0 = hl cW23 := hl_u
theorem cK4 {d : Nat} {Q : zQ} : zRunD ztb zmt' (d + 2) 5 [zR (some 17)] (gl cL33) (hl cW17) Q ↔ Q none (gl cL59) (hl cW23) := by
  rw [r5]
  have c0 := fun Q' => cK3 (d := d) (Q := Q')
  simp only [e5_0, e5_1, e5_4, e5_5, e5_8, e5_9, e5_12, e5_15, e5_16, e5_17, e5_19, e5_22, e5_23, e5_24, e5_26, e5_29, e5_30, e5_31, e5_33, e5_36, e5_37, e5_38, e5_41, zs0, zsI, zsL, zsR, ztl1, ztl0, zc0, zcI, zcL, zcR, true_and, and_true, true_implies, false_implies, implies_true, not_true_eq_false, not_false_eq_true, and_self, Int.toNat_natCast, Nat.reduceAdd, Nat.reduceLeDiff, Nat.reduceLT, forall_eq', Option.some.injEq, zarR, zarI, zarL, zle, zq0, zq1, zq2, zq3, zq4, zq5, zq6, zq8, zq9, zq10, zq20, zq7, zq12, zq24, zq40, zq41, zq48, zq100, zq120, zq123, zq480, zq492, zq700, zq729, zq2187, zq2916, zq8748, ne_eq, Int.reduceEq, Int.reduceLT, Int.reduceLE, Int.reduceToNat, Int.reduceMul, Int.reduceAdd, Int.reduceNeg, Nat.reduceMul, or_true, true_or, cF124, cF125, cF126, cF127, cF183, cF184, cF185, cF186, cF187, cF188, cF189, cF190, cF191, cF192, cF193, cF194, cF195, cF196, cF197, cF198, cF199, cF200, cF201, c0]
theorem cF202 : (gl cL59).2.1 16 = 6 := by decide +kernel
def cL60 : List gA := cL59.set 16 (6, 9, [(0, 17)])
theorem cF203 : zgu (gl cL59) 16 0 (some 17) = gl cL60 := by
  rw [gl_gu (by decide +kernel), show (((cL59.getD 16 gD).1, (cL59.getD 16 gD).2.1, (0, 17) :: (cL59.getD 16 gD).2.2) : gA) = (6, 9, [(0, 17)]) by decide +kernel]
  rfl
theorem cF204 : (gl cL60).2.1 16 = 6 := by decide +kernel
theorem cF205 : (gl cL60).2.2.2 16 0 = some 17 := by decide +kernel
theorem cF206 : (gl cL60).2.1 17 = 1 := by decide +kernel
theorem cF207 : (gl cL60).2.2.2 17 0 = some 18 := by decide +kernel
theorem cF208 : (gl cL60).2.1 16 = 6 := by decide +kernel
def cL61 : List gA := cL60.set 16 (6, 9, [(1, 18), (0, 17)])
theorem cF209 : zgu (gl cL60) 16 1 (some 18) = gl cL61 := by
  rw [gl_gu (by decide +kernel), show (((cL60.getD 16 gD).1, (cL60.getD 16 gD).2.1, (1, 18) :: (cL60.getD 16 gD).2.2) : gA) = (6, 9, [(1, 18), (0, 17)]) by decide +kernel]
  rfl
theorem cF210 : (gl cL61).1 = 31 := by decide +kernel
def cL62 : List gA := cL61 ++ [(10, 4, [])]
theorem cF211 : zgn (gl cL61) 10 4 = gl cL62 := gl_gn
theorem cF212 : zhn (hl cW23) 31 = hl cW23 := hl_n (by decide +kernel)
theorem cF213 : (gl cL62).2.1 16 = 6 := by decide +kernel
def cL63 : List gA := cL62.set 16 (6, 9, [(2, 31), (1, 18), (0, 17)])
theorem cF214 : zgu (gl cL62) 16 2 (some 31) = gl cL63 := by
  rw [gl_gu (by decide +kernel), show (((cL62.getD 16 gD).1, (cL62.getD 16 gD).2.1, (2, 31) :: (cL62.getD 16 gD).2.2) : gA) = (6, 9, [(2, 31), (1, 18), (0, 17)]) by decide +kernel]
  rfl
theorem cF215 : (gl cL63).1 = 32 := by decide +kernel
def cL64 : List gA := cL63 ++ [(10, 4, [])]
theorem cF216 : zgn (gl cL63) 10 4 = gl cL64 := gl_gn
theorem cF217 : zhn (hl cW23) 32 = hl cW23 := hl_n (by decide +kernel)
theorem cF218 : (gl cL64).2.1 16 = 6 := by decide +kernel
def cL65 : List gA := cL64.set 16 (6, 9, [(3, 32), (2, 31), (1, 18), (0, 17)])
theorem cF219 : zgu (gl cL64) 16 3 (some 32) = gl cL65 := by
  rw [gl_gu (by decide +kernel), show (((cL64.getD 16 gD).1, (cL64.getD 16 gD).2.1, (3, 32) :: (cL64.getD 16 gD).2.2) : gA) = (6, 9, [(3, 32), (2, 31), (1, 18), (0, 17)]) by decide +kernel]
  rfl
theorem cF220 : (gl cL65).1 = 33 := by decide +kernel
def cL66 : List gA := cL65 ++ [(10, 3, [])]
theorem cF221 : zgn (gl cL65) 10 3 = gl cL66 := gl_gn
theorem cF222 : zhn (hl cW23) 33 = hl cW23 := hl_n (by decide +kernel)
theorem cF223 : (gl cL66).2.1 16 = 6 := by decide +kernel
def cL67 : List gA := cL66.set 16 (6, 9, [(4, 33), (3, 32), (2, 31), (1, 18), (0, 17)])
theorem cF224 : zgu (gl cL66) 16 4 (some 33) = gl cL67 := by
  rw [gl_gu (by decide +kernel), show (((cL66.getD 16 gD).1, (cL66.getD 16 gD).2.1, (4, 33) :: (cL66.getD 16 gD).2.2) : gA) = (6, 9, [(4, 33), (3, 32), (2, 31), (1, 18), (0, 17)]) by decide +kernel]
  rfl
theorem cF225 : (gl cL67).1 = 34 := by decide +kernel
def cL68 : List gA := cL67 ++ [(11, 3, [])]
theorem cF226 : zgn (gl cL67) 11 3 = gl cL68 := gl_gn
theorem cF227 : zhn (hl cW23) 34 = hl cW23 := hl_n (by decide +kernel)
theorem cF228 : (gl cL68).2.1 16 = 6 := by decide +kernel
def cL69 : List gA := cL68.set 16 (6, 9, [(5, 34), (4, 33), (3, 32), (2, 31), (1, 18), (0, 17)])
theorem cF229 : zgu (gl cL68) 16 5 (some 34) = gl cL69 := by
  rw [gl_gu (by decide +kernel), show (((cL68.getD 16 gD).1, (cL68.getD 16 gD).2.1, (5, 34) :: (cL68.getD 16 gD).2.2) : gA) = (6, 9, [(5, 34), (4, 33), (3, 32), (2, 31), (1, 18), (0, 17)]) by decide +kernel]
  rfl
theorem cF230 : (gl cL69).1 = 35 := by decide +kernel
def cL70 : List gA := cL69 ++ [(11, 4, [])]
theorem cF231 : zgn (gl cL69) 11 4 = gl cL70 := gl_gn
theorem cF232 : zhn (hl cW23) 35 = hl cW23 := hl_n (by decide +kernel)
theorem cF233 : (gl cL70).2.1 16 = 6 := by decide +kernel
def cL71 : List gA := cL70.set 16 (6, 9, [(6, 35), (5, 34), (4, 33), (3, 32), (2, 31), (1, 18), (0, 17)])
theorem cF234 : zgu (gl cL70) 16 6 (some 35) = gl cL71 := by
  rw [gl_gu (by decide +kernel), show (((cL70.getD 16 gD).1, (cL70.getD 16 gD).2.1, (6, 35) :: (cL70.getD 16 gD).2.2) : gA) = (6, 9, [(6, 35), (5, 34), (4, 33), (3, 32), (2, 31), (1, 18), (0, 17)]) by decide +kernel]
  rfl
theorem cF235 : (gl cL71).1 = 36 := by decide +kernel
def cL72 : List gA := cL71 ++ [(10, 4, [])]
theorem cF236 : zgn (gl cL71) 10 4 = gl cL72 := gl_gn
theorem cF237 : zhn (hl cW23) 36 = hl cW23 := hl_n (by decide +kernel)
theorem cF238 : (gl cL72).2.1 16 = 6 := by decide +kernel
def cL73 : List gA := cL72.set 16 (6, 9, [(7, 36), (6, 35), (5, 34), (4, 33), (3, 32), (2, 31), (1, 18), (0, 17)])
theorem cF239 : zgu (gl cL72) 16 7 (some 36) = gl cL73 := by
  rw [gl_gu (by decide +kernel), show (((cL72.getD 16 gD).1, (cL72.getD 16 gD).2.1, (7, 36) :: (cL72.getD 16 gD).2.2) : gA) = (6, 9, [(7, 36), (6, 35), (5, 34), (4, 33), (3, 32), (2, 31), (1, 18), (0, 17)]) by decide +kernel]
  rfl
theorem cF240 : (gl cL73).1 = 37 := by decide +kernel
def cL74 : List gA := cL73 ++ [(10, 12, [])]
theorem cF241 : zgn (gl cL73) 10 12 = gl cL74 := gl_gn
theorem cF242 : zhn (hl cW23) 37 = hl cW23 := hl_n (by decide +kernel)
theorem cF243 : (gl cL74).2.1 16 = 6 := by decide +kernel
def cL75 : List gA := cL74.set 16 (6, 9, [(8, 37), (7, 36), (6, 35), (5, 34), (4, 33), (3, 32), (2, 31), (1, 18), (0, 17)])
theorem cF244 : zgu (gl cL74) 16 8 (some 37) = gl cL75 := by
  rw [gl_gu (by decide +kernel), show (((cL74.getD 16 gD).1, (cL74.getD 16 gD).2.1, (8, 37) :: (cL74.getD 16 gD).2.2) : gA) = (6, 9, [(8, 37), (7, 36), (6, 35), (5, 34), (4, 33), (3, 32), (2, 31), (1, 18), (0, 17)]) by decide +kernel]
  rfl
theorem cK5 {d : Nat} {Q : zQ} : zRunD ztb zmt' (d + 3) 52 [zR (some 16)] (gl cL32) (hl cW17) Q ↔ Q none (gl cL75) (hl cW23) := by
  rw [r52]
  have c0 := fun Q' => cK4 (d := d) (Q := Q')
  simp only [e52_0, e52_1, e52_4, e52_5, e52_8, e52_9, e52_12, e52_15, e52_16, e52_17, e52_20, e52_23, e52_26, e52_27, e52_28, e52_30, e52_33, e52_34, e52_35, e52_37, e52_40, e52_41, e52_42, e52_44, e52_47, e52_48, e52_49, e52_51, e52_54, e52_55, e52_56, e52_58, e52_61, e52_62, e52_63, e52_65, e52_68, e52_69, e52_71, e52_73, e52_76, zs0, zsI, zsL, zsR, ztl1, ztl0, zc0, zcI, zcL, zcR, true_and, and_true, true_implies, false_implies, implies_true, not_true_eq_false, not_false_eq_true, and_self, Int.toNat_natCast, Nat.reduceAdd, Nat.reduceLeDiff, Nat.reduceLT, forall_eq', Option.some.injEq, zarR, zarI, zarL, zle, zq0, zq1, zq2, zq3, zq4, zq5, zq6, zq8, zq9, zq10, zq20, zq7, zq12, zq24, zq40, zq41, zq48, zq100, zq120, zq123, zq480, zq492, zq700, zq729, zq2187, zq2916, zq8748, ne_eq, Int.reduceEq, Int.reduceLT, Int.reduceLE, Int.reduceToNat, Int.reduceMul, Int.reduceAdd, Int.reduceNeg, Nat.reduceMul, or_true, true_or, cF120, cF121, cF122, cF123, cF202, cF203, cF204, cF205, cF206, cF207, cF208, cF209, cF210, cF211, cF212, cF213, cF214, cF215, cF216, cF217, cF218, cF219, cF220, cF221, cF222, cF223, cF224, cF225, cF226, cF227, cF228, cF229, cF230, cF231, cF232, cF233, cF234, cF235, cF236, cF237, cF238, cF239, cF240, cF241, cF242, cF243, cF244, c0]
theorem cF245 : (gl cL75).2.1 0 = 7 := by decide +kernel
def cL76 : List gA := cL75.set 0 (7, 14, [(4, 16), (3, 6), (2, 2), (0, 1)])
theorem cF246 : zgu (gl cL75) 0 4 (some 16) = gl cL76 := by
  rw [gl_gu (by decide +kernel), show (((cL75.getD 0 gD).1, (cL75.getD 0 gD).2.1, (4, 16) :: (cL75.getD 0 gD).2.2) : gA) = (7, 14, [(4, 16), (3, 6), (2, 2), (0, 1)]) by decide +kernel]
  rfl
theorem cF247 : (gl cL76).2.1 0 = 7 := by decide +kernel
theorem cF248 : (gl cL76).2.2.2 0 4 = some 16 := by decide +kernel
theorem cF249 : (gl cL76).2.1 16 = 6 := by decide +kernel
theorem cF250 : (gl cL76).2.2.2 16 0 = some 17 := by decide +kernel
theorem cF251 : (gl cL76).2.1 0 = 7 := by decide +kernel
def cL77 : List gA := cL76.set 0 (7, 14, [(5, 17), (4, 16), (3, 6), (2, 2), (0, 1)])
theorem cF252 : zgu (gl cL76) 0 5 (some 17) = gl cL77 := by
  rw [gl_gu (by decide +kernel), show (((cL76.getD 0 gD).1, (cL76.getD 0 gD).2.1, (5, 17) :: (cL76.getD 0 gD).2.2) : gA) = (7, 14, [(5, 17), (4, 16), (3, 6), (2, 2), (0, 1)]) by decide +kernel]
  rfl
theorem cF253 : (gl cL77).2.1 0 = 7 := by decide +kernel
theorem cF254 : (gl cL77).2.2.2 0 5 = some 17 := by decide +kernel
theorem cF255 : (gl cL77).2.1 17 = 1 := by decide +kernel
theorem cF256 : (gl cL77).2.2.2 17 0 = some 18 := by decide +kernel
theorem cF257 : (gl cL77).2.1 0 = 7 := by decide +kernel
def cL78 : List gA := cL77.set 0 (7, 14, [(6, 18), (5, 17), (4, 16), (3, 6), (2, 2), (0, 1)])
theorem cF258 : zgu (gl cL77) 0 6 (some 18) = gl cL78 := by
  rw [gl_gu (by decide +kernel), show (((cL77.getD 0 gD).1, (cL77.getD 0 gD).2.1, (6, 18) :: (cL77.getD 0 gD).2.2) : gA) = (7, 14, [(6, 18), (5, 17), (4, 16), (3, 6), (2, 2), (0, 1)]) by decide +kernel]
  rfl
theorem cF259 : (gl cL78).1 = 38 := by decide +kernel
def cL79 : List gA := cL78 ++ [(0, 7, [])]
theorem cF260 : zgn (gl cL78) 0 7 = gl cL79 := gl_gn
theorem cF261 : zhn (hl cW23) 38 = hl cW23 := hl_n (by decide +kernel)
theorem cF262 : (gl cL79).2.1 38 = 0 := by decide +kernel
theorem cF263 : (gl cL79).2.1 38 = 0 := by decide +kernel
def cW24 : List (Nat × Nat × Int) := (38, 0, 0) :: cW23
theorem cF264 : zu (hl cW23) 38 0 0 = hl cW24 := hl_u
theorem cF265 : (gl cL79).1 = 39 := by decide +kernel
def cL80 : List gA := cL79 ++ [(10, 492, [])]
theorem cF266 : zgn (gl cL79) 10 492 = gl cL80 := gl_gn
theorem cF267 : zhn (hl cW24) 39 = hl cW24 := hl_n (by decide +kernel)
theorem cF268 : (gl cL80).2.1 38 = 0 := by decide +kernel
def cL81 : List gA := cL80.set 38 (0, 7, [(1, 39)])
theorem cF269 : zgu (gl cL80) 38 1 (some 39) = gl cL81 := by
  rw [gl_gu (by decide +kernel), show (((cL80.getD 38 gD).1, (cL80.getD 38 gD).2.1, (1, 39) :: (cL80.getD 38 gD).2.2) : gA) = (0, 7, [(1, 39)]) by decide +kernel]
  rfl
theorem cF270 : (gl cL81).1 = 40 := by decide +kernel
def cL82 : List gA := cL81 ++ [(10, 123, [])]
theorem cF271 : zgn (gl cL81) 10 123 = gl cL82 := gl_gn
theorem cF272 : zhn (hl cW24) 40 = hl cW24 := hl_n (by decide +kernel)
theorem cF273 : (gl cL82).2.1 38 = 0 := by decide +kernel
def cL83 : List gA := cL82.set 38 (0, 7, [(2, 40), (1, 39)])
theorem cF274 : zgu (gl cL82) 38 2 (some 40) = gl cL83 := by
  rw [gl_gu (by decide +kernel), show (((cL82.getD 38 gD).1, (cL82.getD 38 gD).2.1, (2, 40) :: (cL82.getD 38 gD).2.2) : gA) = (0, 7, [(2, 40), (1, 39)]) by decide +kernel]
  rfl
theorem cF275 : (gl cL83).1 = 41 := by decide +kernel
def cL84 : List gA := cL83 ++ [(10, 123, [])]
theorem cF276 : zgn (gl cL83) 10 123 = gl cL84 := gl_gn
theorem cF277 : zhn (hl cW24) 41 = hl cW24 := hl_n (by decide +kernel)
theorem cF278 : (gl cL84).2.1 38 = 0 := by decide +kernel
def cL85 : List gA := cL84.set 38 (0, 7, [(3, 41), (2, 40), (1, 39)])
theorem cF279 : zgu (gl cL84) 38 3 (some 41) = gl cL85 := by
  rw [gl_gu (by decide +kernel), show (((cL84.getD 38 gD).1, (cL84.getD 38 gD).2.1, (3, 41) :: (cL84.getD 38 gD).2.2) : gA) = (0, 7, [(3, 41), (2, 40), (1, 39)]) by decide +kernel]
  rfl
theorem cF280 : (gl cL85).1 = 42 := by decide +kernel
def cL86 : List gA := cL85 ++ [(10, 41, [])]
theorem cF281 : zgn (gl cL85) 10 41 = gl cL86 := gl_gn
theorem cF282 : zhn (hl cW24) 42 = hl cW24 := hl_n (by decide +kernel)
theorem cF283 : (gl cL86).2.1 38 = 0 := by decide +kernel
def cL87 : List gA := cL86.set 38 (0, 7, [(4, 42), (3, 41), (2, 40), (1, 39)])
theorem cF284 : zgu (gl cL86) 38 4 (some 42) = gl cL87 := by
  rw [gl_gu (by decide +kernel), show (((cL86.getD 38 gD).1, (cL86.getD 38 gD).2.1, (4, 42) :: (cL86.getD 38 gD).2.2) : gA) = (0, 7, [(4, 42), (3, 41), (2, 40), (1, 39)]) by decide +kernel]
  rfl
theorem cF285 : (gl cL87).1 = 43 := by decide +kernel
def cL88 : List gA := cL87 ++ [(11, 120, [])]
theorem cF286 : zgn (gl cL87) 11 120 = gl cL88 := gl_gn
theorem cF287 : zhn (hl cW24) 43 = hl cW24 := hl_n (by decide +kernel)
theorem cF288 : (gl cL88).2.1 38 = 0 := by decide +kernel
def cL89 : List gA := cL88.set 38 (0, 7, [(5, 43), (4, 42), (3, 41), (2, 40), (1, 39)])
theorem cF289 : zgu (gl cL88) 38 5 (some 43) = gl cL89 := by
  rw [gl_gu (by decide +kernel), show (((cL88.getD 38 gD).1, (cL88.getD 38 gD).2.1, (5, 43) :: (cL88.getD 38 gD).2.2) : gA) = (0, 7, [(5, 43), (4, 42), (3, 41), (2, 40), (1, 39)]) by decide +kernel]
  rfl
theorem cF290 : (gl cL89).1 = 44 := by decide +kernel
def cL90 : List gA := cL89 ++ [(10, 40, [])]
theorem cF291 : zgn (gl cL89) 10 40 = gl cL90 := gl_gn
theorem cF292 : zhn (hl cW24) 44 = hl cW24 := hl_n (by decide +kernel)
theorem cF293 : (gl cL90).2.1 38 = 0 := by decide +kernel
def cL91 : List gA := cL90.set 38 (0, 7, [(6, 44), (5, 43), (4, 42), (3, 41), (2, 40), (1, 39)])
theorem cF294 : zgu (gl cL90) 38 6 (some 44) = gl cL91 := by
  rw [gl_gu (by decide +kernel), show (((cL90.getD 38 gD).1, (cL90.getD 38 gD).2.1, (6, 44) :: (cL90.getD 38 gD).2.2) : gA) = (0, 7, [(6, 44), (5, 43), (4, 42), (3, 41), (2, 40), (1, 39)]) by decide +kernel]
  rfl
theorem cK6 {d : Nat} {Q : zQ} : zRunD ztb zmt' (d + 1) 0 [zR (some 38)] (gl cL79) (hl cW23) Q ↔ Q none (gl cL91) (hl cW24) := by
  rw [r0]
  simp only [e0_0, e0_1, e0_4, e0_5, e0_6, e0_9, e0_10, e0_13, e0_15, e0_18, e0_19, e0_21, e0_23, e0_26, e0_27, e0_29, e0_31, e0_34, e0_35, e0_37, e0_39, e0_42, e0_43, e0_45, e0_47, e0_50, e0_51, e0_53, e0_55, e0_58, zs0, zsI, zsL, zsR, ztl1, ztl0, zc0, zcI, zcL, zcR, true_and, and_true, true_implies, false_implies, implies_true, not_true_eq_false, not_false_eq_true, and_self, Int.toNat_natCast, Nat.reduceAdd, Nat.reduceLeDiff, Nat.reduceLT, forall_eq', Option.some.injEq, zarR, zarI, zarL, zle, zq0, zq1, zq2, zq3, zq4, zq5, zq6, zq8, zq9, zq10, zq20, zq7, zq12, zq24, zq40, zq41, zq48, zq100, zq120, zq123, zq480, zq492, zq700, zq729, zq2187, zq2916, zq8748, ne_eq, Int.reduceEq, Int.reduceLT, Int.reduceLE, Int.reduceToNat, Int.reduceMul, Int.reduceAdd, Int.reduceNeg, Nat.reduceMul, or_true, true_or, cF263, cF264, cF265, cF266, cF267, cF268, cF269, cF270, cF271, cF272, cF273, cF274, cF275, cF276, cF277, cF278, cF279, cF280, cF281, cF282, cF283, cF284, cF285, cF286, cF287, cF288, cF289, cF290, cF291, cF292, cF293, cF294]
theorem cF295 : (gl cL91).2.1 0 = 7 := by decide +kernel
def cL92 : List gA := cL91.set 0 (7, 14, [(7, 38), (6, 18), (5, 17), (4, 16), (3, 6), (2, 2), (0, 1)])
theorem cF296 : zgu (gl cL91) 0 7 (some 38) = gl cL92 := by
  rw [gl_gu (by decide +kernel), show (((cL91.getD 0 gD).1, (cL91.getD 0 gD).2.1, (7, 38) :: (cL91.getD 0 gD).2.2) : gA) = (7, 14, [(7, 38), (6, 18), (5, 17), (4, 16), (3, 6), (2, 2), (0, 1)]) by decide +kernel]
  rfl
theorem cF297 : (gl cL92).1 = 45 := by decide +kernel
def cL93 : List gA := cL92 ++ [(10, 4, [])]
theorem cF298 : zgn (gl cL92) 10 4 = gl cL93 := gl_gn
theorem cF299 : zhn (hl cW24) 45 = hl cW24 := hl_n (by decide +kernel)
theorem cF300 : (gl cL93).2.1 0 = 7 := by decide +kernel
def cL94 : List gA := cL93.set 0 (7, 14, [(8, 45), (7, 38), (6, 18), (5, 17), (4, 16), (3, 6), (2, 2), (0, 1)])
theorem cF301 : zgu (gl cL93) 0 8 (some 45) = gl cL94 := by
  rw [gl_gu (by decide +kernel), show (((cL93.getD 0 gD).1, (cL93.getD 0 gD).2.1, (8, 45) :: (cL93.getD 0 gD).2.2) : gA) = (7, 14, [(8, 45), (7, 38), (6, 18), (5, 17), (4, 16), (3, 6), (2, 2), (0, 1)]) by decide +kernel]
  rfl
theorem cF302 : (gl cL94).1 = 46 := by decide +kernel
def cL95 : List gA := cL94 ++ [(4, 15, [])]
theorem cF303 : zgn (gl cL94) 4 15 = gl cL95 := gl_gn
theorem cF304 : zhn (hl cW24) 46 = hl cW24 := hl_n (by decide +kernel)
theorem cF305 : (gl cL95).2.1 46 = 4 := by decide +kernel
theorem cF306 : (gl cL95).1 = 47 := by decide +kernel
def cL96 : List gA := cL95 ++ [(6, 9, [])]
theorem cF307 : zgn (gl cL95) 6 9 = gl cL96 := gl_gn
theorem cF308 : zhn (hl cW24) 47 = hl cW24 := hl_n (by decide +kernel)
theorem cF309 : (gl cL96).2.1 47 = 6 := by decide +kernel
theorem cF310 : (gl cL96).1 = 48 := by decide +kernel
def cL97 : List gA := cL96 ++ [(1, 5, [])]
theorem cF311 : zgn (gl cL96) 1 5 = gl cL97 := gl_gn
theorem cF312 : zhn (hl cW24) 48 = hl cW24 := hl_n (by decide +kernel)
theorem cF313 : (gl cL97).2.1 48 = 1 := by decide +kernel
theorem cF314 : (gl cL97).1 = 49 := by decide +kernel
def cL98 : List gA := cL97 ++ [(5, 14, [])]
theorem cF315 : zgn (gl cL97) 5 14 = gl cL98 := gl_gn
theorem cF316 : zhn (hl cW24) 49 = hl cW24 := hl_n (by decide +kernel)
theorem cF317 : (gl cL98).2.1 49 = 5 := by decide +kernel
theorem cF318 : (gl cL98).1 = 50 := by decide +kernel
def cL99 : List gA := cL98 ++ [(10, 3, [])]
theorem cF319 : zgn (gl cL98) 10 3 = gl cL99 := gl_gn
theorem cF320 : zhn (hl cW24) 50 = hl cW24 := hl_n (by decide +kernel)
theorem cF321 : (gl cL99).2.1 49 = 5 := by decide +kernel
def cL100 : List gA := cL99.set 49 (5, 14, [(0, 50)])
theorem cF322 : zgu (gl cL99) 49 0 (some 50) = gl cL100 := by
  rw [gl_gu (by decide +kernel), show (((cL99.getD 49 gD).1, (cL99.getD 49 gD).2.1, (0, 50) :: (cL99.getD 49 gD).2.2) : gA) = (5, 14, [(0, 50)]) by decide +kernel]
  rfl
theorem cF323 : (gl cL100).1 = 51 := by decide +kernel
def cL101 : List gA := cL100 ++ [(10, 3, [])]
theorem cF324 : zgn (gl cL100) 10 3 = gl cL101 := gl_gn
theorem cF325 : zhn (hl cW24) 51 = hl cW24 := hl_n (by decide +kernel)
theorem cF326 : (gl cL101).2.1 49 = 5 := by decide +kernel
def cL102 : List gA := cL101.set 49 (5, 14, [(1, 51), (0, 50)])
theorem cF327 : zgu (gl cL101) 49 1 (some 51) = gl cL102 := by
  rw [gl_gu (by decide +kernel), show (((cL101.getD 49 gD).1, (cL101.getD 49 gD).2.1, (1, 51) :: (cL101.getD 49 gD).2.2) : gA) = (5, 14, [(1, 51), (0, 50)]) by decide +kernel]
  rfl
theorem cF328 : (gl cL102).1 = 52 := by decide +kernel
def cL103 : List gA := cL102 ++ [(10, 3, [])]
theorem cF329 : zgn (gl cL102) 10 3 = gl cL103 := gl_gn
theorem cF330 : zhn (hl cW24) 52 = hl cW24 := hl_n (by decide +kernel)
theorem cF331 : (gl cL103).2.1 49 = 5 := by decide +kernel
def cL104 : List gA := cL103.set 49 (5, 14, [(2, 52), (1, 51), (0, 50)])
theorem cF332 : zgu (gl cL103) 49 2 (some 52) = gl cL104 := by
  rw [gl_gu (by decide +kernel), show (((cL103.getD 49 gD).1, (cL103.getD 49 gD).2.1, (2, 52) :: (cL103.getD 49 gD).2.2) : gA) = (5, 14, [(2, 52), (1, 51), (0, 50)]) by decide +kernel]
  rfl
theorem cF333 : (gl cL104).1 = 53 := by decide +kernel
def cL105 : List gA := cL104 ++ [(10, 4, [])]
theorem cF334 : zgn (gl cL104) 10 4 = gl cL105 := gl_gn
theorem cF335 : zhn (hl cW24) 53 = hl cW24 := hl_n (by decide +kernel)
theorem cF336 : (gl cL105).2.1 49 = 5 := by decide +kernel
def cL106 : List gA := cL105.set 49 (5, 14, [(3, 53), (2, 52), (1, 51), (0, 50)])
theorem cF337 : zgu (gl cL105) 49 3 (some 53) = gl cL106 := by
  rw [gl_gu (by decide +kernel), show (((cL105.getD 49 gD).1, (cL105.getD 49 gD).2.1, (3, 53) :: (cL105.getD 49 gD).2.2) : gA) = (5, 14, [(3, 53), (2, 52), (1, 51), (0, 50)]) by decide +kernel]
  rfl
theorem cF338 : (gl cL106).1 = 54 := by decide +kernel
def cL107 : List gA := cL106 ++ [(10, 4, [])]
theorem cF339 : zgn (gl cL106) 10 4 = gl cL107 := gl_gn
theorem cF340 : zhn (hl cW24) 54 = hl cW24 := hl_n (by decide +kernel)
theorem cF341 : (gl cL107).2.1 49 = 5 := by decide +kernel
def cL108 : List gA := cL107.set 49 (5, 14, [(4, 54), (3, 53), (2, 52), (1, 51), (0, 50)])
theorem cF342 : zgu (gl cL107) 49 4 (some 54) = gl cL108 := by
  rw [gl_gu (by decide +kernel), show (((cL107.getD 49 gD).1, (cL107.getD 49 gD).2.1, (4, 54) :: (cL107.getD 49 gD).2.2) : gA) = (5, 14, [(4, 54), (3, 53), (2, 52), (1, 51), (0, 50)]) by decide +kernel]
  rfl
theorem cF343 : (gl cL108).1 = 55 := by decide +kernel
def cL109 : List gA := cL108 ++ [(10, 4, [])]
theorem cF344 : zgn (gl cL108) 10 4 = gl cL109 := gl_gn
theorem cF345 : zhn (hl cW24) 55 = hl cW24 := hl_n (by decide +kernel)
theorem cF346 : (gl cL109).2.1 49 = 5 := by decide +kernel
def cL110 : List gA := cL109.set 49 (5, 14, [(5, 55), (4, 54), (3, 53), (2, 52), (1, 51), (0, 50)])
theorem cF347 : zgu (gl cL109) 49 5 (some 55) = gl cL110 := by
  rw [gl_gu (by decide +kernel), show (((cL109.getD 49 gD).1, (cL109.getD 49 gD).2.1, (5, 55) :: (cL109.getD 49 gD).2.2) : gA) = (5, 14, [(5, 55), (4, 54), (3, 53), (2, 52), (1, 51), (0, 50)]) by decide +kernel]
  rfl
theorem cF348 : (gl cL110).1 = 56 := by decide +kernel
def cL111 : List gA := cL110 ++ [(10, 4, [])]
theorem cF349 : zgn (gl cL110) 10 4 = gl cL111 := gl_gn
theorem cF350 : zhn (hl cW24) 56 = hl cW24 := hl_n (by decide +kernel)
theorem cF351 : (gl cL111).2.1 49 = 5 := by decide +kernel
def cL112 : List gA := cL111.set 49 (5, 14, [(6, 56), (5, 55), (4, 54), (3, 53), (2, 52), (1, 51), (0, 50)])
theorem cF352 : zgu (gl cL111) 49 6 (some 56) = gl cL112 := by
  rw [gl_gu (by decide +kernel), show (((cL111.getD 49 gD).1, (cL111.getD 49 gD).2.1, (6, 56) :: (cL111.getD 49 gD).2.2) : gA) = (5, 14, [(6, 56), (5, 55), (4, 54), (3, 53), (2, 52), (1, 51), (0, 50)]) by decide +kernel]
  rfl
theorem cF353 : (gl cL112).1 = 57 := by decide +kernel
def cL113 : List gA := cL112 ++ [(10, 4, [])]
theorem cF354 : zgn (gl cL112) 10 4 = gl cL113 := gl_gn
theorem cF355 : zhn (hl cW24) 57 = hl cW24 := hl_n (by decide +kernel)
theorem cF356 : (gl cL113).2.1 49 = 5 := by decide +kernel
def cL114 : List gA := cL113.set 49 (5, 14, [(7, 57), (6, 56), (5, 55), (4, 54), (3, 53), (2, 52), (1, 51), (0, 50)])
theorem cF357 : zgu (gl cL113) 49 7 (some 57) = gl cL114 := by
  rw [gl_gu (by decide +kernel), show (((cL113.getD 49 gD).1, (cL113.getD 49 gD).2.1, (7, 57) :: (cL113.getD 49 gD).2.2) : gA) = (5, 14, [(7, 57), (6, 56), (5, 55), (4, 54), (3, 53), (2, 52), (1, 51), (0, 50)]) by decide +kernel]
  rfl
theorem cF358 : (gl cL114).1 = 58 := by decide +kernel
def cL115 : List gA := cL114 ++ [(10, 3, [])]
theorem cF359 : zgn (gl cL114) 10 3 = gl cL115 := gl_gn
theorem cF360 : zhn (hl cW24) 58 = hl cW24 := hl_n (by decide +kernel)
theorem cF361 : (gl cL115).2.1 49 = 5 := by decide +kernel
def cL116 : List gA := cL115.set 49 (5, 14, [(8, 58), (7, 57), (6, 56), (5, 55), (4, 54), (3, 53), (2, 52), (1, 51), (0, 50)])
theorem cF362 : zgu (gl cL115) 49 8 (some 58) = gl cL116 := by
  rw [gl_gu (by decide +kernel), show (((cL115.getD 49 gD).1, (cL115.getD 49 gD).2.1, (8, 58) :: (cL115.getD 49 gD).2.2) : gA) = (5, 14, [(8, 58), (7, 57), (6, 56), (5, 55), (4, 54), (3, 53), (2, 52), (1, 51), (0, 50)]) by decide +kernel]
  rfl
theorem cF363 : (gl cL116).2.1 49 = 5 := by decide +kernel
def cW25 : List (Nat × Nat × Int) := (49, 9, 0) :: cW24
theorem cF364 : zu (hl cW24) 49 9 0 = hl cW25 := hl_u
theorem cF365 : (gl cL116).2.1 49 = 5 := by decide +kernel
def cW26 : List (Nat × Nat × Int) := (49, 10, 0) :: cW25
theorem cF366 : zu (hl cW25) 49 10 0 = hl cW26 := hl_u
theorem cF367 : (gl cL116).2.1 49 = 5 := by decide +kernel
def cW27 : List (Nat × Nat × Int) := (49, 11, 0) :: cW26
theorem cF368 : zu (hl cW26) 49 11 0 = hl cW27 := hl_u
theorem cF369 : (gl cL116).2.1 49 = 5 := by decide +kernel
def cW28 : List (Nat × Nat × Int) := (49, 12, 0) :: cW27
theorem cF370 : zu (hl cW27) 49 12 0 = hl cW28 := hl_u
theorem cF371 : (gl cL116).2.1 49 = 5 := by decide +kernel
def cW29 : List (Nat × Nat × Int) := (49, 13, 0) :: cW28
theorem cF372 : zu (hl cW28) 49 13 0 = hl cW29 := hl_u
theorem cK7 {d : Nat} {Q : zQ} : zRunD ztb zmt' (d + 1) 45 [zR (some 49)] (gl cL98) (hl cW24) Q ↔ Q none (gl cL116) (hl cW29) := by
  rw [r45]
  simp only [e45_0, e45_1, e45_4, e45_5, e45_6, e45_8, e45_11, e45_12, e45_13, e45_15, e45_18, e45_19, e45_20, e45_22, e45_25, e45_26, e45_27, e45_29, e45_32, e45_33, e45_34, e45_36, e45_39, e45_40, e45_41, e45_43, e45_46, e45_47, e45_48, e45_50, e45_53, e45_54, e45_55, e45_57, e45_60, e45_61, e45_62, e45_64, e45_67, e45_68, e45_69, e45_72, e45_73, e45_74, e45_77, e45_78, e45_79, e45_82, e45_83, e45_84, e45_87, e45_88, e45_89, e45_92, zs0, zsI, zsL, zsR, ztl1, ztl0, zc0, zcI, zcL, zcR, true_and, and_true, true_implies, false_implies, implies_true, not_true_eq_false, not_false_eq_true, and_self, Int.toNat_natCast, Nat.reduceAdd, Nat.reduceLeDiff, Nat.reduceLT, forall_eq', Option.some.injEq, zarR, zarI, zarL, zle, zq0, zq1, zq2, zq3, zq4, zq5, zq6, zq8, zq9, zq10, zq20, zq7, zq12, zq24, zq40, zq41, zq48, zq100, zq120, zq123, zq480, zq492, zq700, zq729, zq2187, zq2916, zq8748, ne_eq, Int.reduceEq, Int.reduceLT, Int.reduceLE, Int.reduceToNat, Int.reduceMul, Int.reduceAdd, Int.reduceNeg, Nat.reduceMul, or_true, true_or, cF318, cF319, cF320, cF321, cF322, cF323, cF324, cF325, cF326, cF327, cF328, cF329, cF330, cF331, cF332, cF333, cF334, cF335, cF336, cF337, cF338, cF339, cF340, cF341, cF342, cF343, cF344, cF345, cF346, cF347, cF348, cF349, cF350, cF351, cF352, cF353, cF354, cF355, cF356, cF357, cF358, cF359, cF360, cF361, cF362, cF363, cF364, cF365, cF366, cF367, cF368, cF369, cF370, cF371, cF372]
theorem cF373 : (gl cL116).2.1 48 = 1 := by decide +kernel
def cL117 : List gA := cL116.set 48 (1, 5, [(0, 49)])
theorem cF374 : zgu (gl cL116) 48 0 (some 49) = gl cL117 := by
  rw [gl_gu (by decide +kernel), show (((cL116.getD 48 gD).1, (cL116.getD 48 gD).2.1, (0, 49) :: (cL116.getD 48 gD).2.2) : gA) = (1, 5, [(0, 49)]) by decide +kernel]
  rfl
theorem cF375 : (gl cL117).1 = 59 := by decide +kernel
def cL118 : List gA := cL117 ++ [(10, 3, [])]
theorem cF376 : zgn (gl cL117) 10 3 = gl cL118 := gl_gn
theorem cF377 : zhn (hl cW29) 59 = hl cW29 := hl_n (by decide +kernel)
theorem cF378 : (gl cL118).2.1 48 = 1 := by decide +kernel
def cL119 : List gA := cL118.set 48 (1, 5, [(1, 59), (0, 49)])
theorem cF379 : zgu (gl cL118) 48 1 (some 59) = gl cL119 := by
  rw [gl_gu (by decide +kernel), show (((cL118.getD 48 gD).1, (cL118.getD 48 gD).2.1, (1, 59) :: (cL118.getD 48 gD).2.2) : gA) = (1, 5, [(1, 59), (0, 49)]) by decide +kernel]
  rfl
theorem cF380 : (gl cL119).1 = 60 := by decide +kernel
def cL120 : List gA := cL119 ++ [(10, 3, [])]
theorem cF381 : zgn (gl cL119) 10 3 = gl cL120 := gl_gn
theorem cF382 : zhn (hl cW29) 60 = hl cW29 := hl_n (by decide +kernel)
theorem cF383 : (gl cL120).2.1 48 = 1 := by decide +kernel
def cL121 : List gA := cL120.set 48 (1, 5, [(2, 60), (1, 59), (0, 49)])
theorem cF384 : zgu (gl cL120) 48 2 (some 60) = gl cL121 := by
  rw [gl_gu (by decide +kernel), show (((cL120.getD 48 gD).1, (cL120.getD 48 gD).2.1, (2, 60) :: (cL120.getD 48 gD).2.2) : gA) = (1, 5, [(2, 60), (1, 59), (0, 49)]) by decide +kernel]
  rfl
theorem cF385 : (gl cL121).1 = 61 := by decide +kernel
def cL122 : List gA := cL121 ++ [(10, 4, [])]
theorem cF386 : zgn (gl cL121) 10 4 = gl cL122 := gl_gn
theorem cF387 : zhn (hl cW29) 61 = hl cW29 := hl_n (by decide +kernel)
theorem cF388 : (gl cL122).2.1 48 = 1 := by decide +kernel
def cL123 : List gA := cL122.set 48 (1, 5, [(3, 61), (2, 60), (1, 59), (0, 49)])
theorem cF389 : zgu (gl cL122) 48 3 (some 61) = gl cL123 := by
  rw [gl_gu (by decide +kernel), show (((cL122.getD 48 gD).1, (cL122.getD 48 gD).2.1, (3, 61) :: (cL122.getD 48 gD).2.2) : gA) = (1, 5, [(3, 61), (2, 60), (1, 59), (0, 49)]) by decide +kernel]
  rfl
theorem cF390 : (gl cL123).2.1 48 = 1 := by decide +kernel
def cW30 : List (Nat × Nat × Int) := (48, 4, 0) :: cW29
theorem cF391 : zu (hl cW29) 48 4 0 = hl cW30 := hl_u
theorem cK8 {d : Nat} {Q : zQ} : zRunD ztb zmt' (d + 2) 5 [zR (some 48)] (gl cL97) (hl cW24) Q ↔ Q none (gl cL123) (hl cW30) := by
  rw [r5]
  have c0 := fun Q' => cK7 (d := d) (Q := Q')
  simp only [e5_0, e5_1, e5_4, e5_5, e5_8, e5_9, e5_12, e5_15, e5_16, e5_17, e5_19, e5_22, e5_23, e5_24, e5_26, e5_29, e5_30, e5_31, e5_33, e5_36, e5_37, e5_38, e5_41, zs0, zsI, zsL, zsR, ztl1, ztl0, zc0, zcI, zcL, zcR, true_and, and_true, true_implies, false_implies, implies_true, not_true_eq_false, not_false_eq_true, and_self, Int.toNat_natCast, Nat.reduceAdd, Nat.reduceLeDiff, Nat.reduceLT, forall_eq', Option.some.injEq, zarR, zarI, zarL, zle, zq0, zq1, zq2, zq3, zq4, zq5, zq6, zq8, zq9, zq10, zq20, zq7, zq12, zq24, zq40, zq41, zq48, zq100, zq120, zq123, zq480, zq492, zq700, zq729, zq2187, zq2916, zq8748, ne_eq, Int.reduceEq, Int.reduceLT, Int.reduceLE, Int.reduceToNat, Int.reduceMul, Int.reduceAdd, Int.reduceNeg, Nat.reduceMul, or_true, true_or, cF314, cF315, cF316, cF317, cF373, cF374, cF375, cF376, cF377, cF378, cF379, cF380, cF381, cF382, cF383, cF384, cF385, cF386, cF387, cF388, cF389, cF390, cF391, c0]
theorem cF392 : (gl cL123).2.1 47 = 6 := by decide +kernel
def cL124 : List gA := cL123.set 47 (6, 9, [(0, 48)])
theorem cF393 : zgu (gl cL123) 47 0 (some 48) = gl cL124 := by
  rw [gl_gu (by decide +kernel), show (((cL123.getD 47 gD).1, (cL123.getD 47 gD).2.1, (0, 48) :: (cL123.getD 47 gD).2.2) : gA) = (6, 9, [(0, 48)]) by decide +kernel]
  rfl
theorem cF394 : (gl cL124).2.1 47 = 6 := by decide +kernel
theorem cF395 : (gl cL124).2.2.2 47 0 = some 48 := by decide +kernel
theorem cF396 : (gl cL124).2.1 48 = 1 := by decide +kernel
theorem cF397 : (gl cL124).2.2.2 48 0 = some 49 := by decide +kernel
theorem cF398 : (gl cL124).2.1 47 = 6 := by decide +kernel
def cL125 : List gA := cL124.set 47 (6, 9, [(1, 49), (0, 48)])
theorem cF399 : zgu (gl cL124) 47 1 (some 49) = gl cL125 := by
  rw [gl_gu (by decide +kernel), show (((cL124.getD 47 gD).1, (cL124.getD 47 gD).2.1, (1, 49) :: (cL124.getD 47 gD).2.2) : gA) = (6, 9, [(1, 49), (0, 48)]) by decide +kernel]
  rfl
theorem cF400 : (gl cL125).1 = 62 := by decide +kernel
def cL126 : List gA := cL125 ++ [(10, 4, [])]
theorem cF401 : zgn (gl cL125) 10 4 = gl cL126 := gl_gn
theorem cF402 : zhn (hl cW30) 62 = hl cW30 := hl_n (by decide +kernel)
theorem cF403 : (gl cL126).2.1 47 = 6 := by decide +kernel
def cL127 : List gA := cL126.set 47 (6, 9, [(2, 62), (1, 49), (0, 48)])
theorem cF404 : zgu (gl cL126) 47 2 (some 62) = gl cL127 := by
  rw [gl_gu (by decide +kernel), show (((cL126.getD 47 gD).1, (cL126.getD 47 gD).2.1, (2, 62) :: (cL126.getD 47 gD).2.2) : gA) = (6, 9, [(2, 62), (1, 49), (0, 48)]) by decide +kernel]
  rfl
theorem cF405 : (gl cL127).1 = 63 := by decide +kernel
def cL128 : List gA := cL127 ++ [(10, 4, [])]
theorem cF406 : zgn (gl cL127) 10 4 = gl cL128 := gl_gn
theorem cF407 : zhn (hl cW30) 63 = hl cW30 := hl_n (by decide +kernel)
theorem cF408 : (gl cL128).2.1 47 = 6 := by decide +kernel
def cL129 : List gA := cL128.set 47 (6, 9, [(3, 63), (2, 62), (1, 49), (0, 48)])
theorem cF409 : zgu (gl cL128) 47 3 (some 63) = gl cL129 := by
  rw [gl_gu (by decide +kernel), show (((cL128.getD 47 gD).1, (cL128.getD 47 gD).2.1, (3, 63) :: (cL128.getD 47 gD).2.2) : gA) = (6, 9, [(3, 63), (2, 62), (1, 49), (0, 48)]) by decide +kernel]
  rfl
theorem cF410 : (gl cL129).1 = 64 := by decide +kernel
def cL130 : List gA := cL129 ++ [(10, 3, [])]
theorem cF411 : zgn (gl cL129) 10 3 = gl cL130 := gl_gn
theorem cF412 : zhn (hl cW30) 64 = hl cW30 := hl_n (by decide +kernel)
theorem cF413 : (gl cL130).2.1 47 = 6 := by decide +kernel
def cL131 : List gA := cL130.set 47 (6, 9, [(4, 64), (3, 63), (2, 62), (1, 49), (0, 48)])
theorem cF414 : zgu (gl cL130) 47 4 (some 64) = gl cL131 := by
  rw [gl_gu (by decide +kernel), show (((cL130.getD 47 gD).1, (cL130.getD 47 gD).2.1, (4, 64) :: (cL130.getD 47 gD).2.2) : gA) = (6, 9, [(4, 64), (3, 63), (2, 62), (1, 49), (0, 48)]) by decide +kernel]
  rfl
theorem cF415 : (gl cL131).1 = 65 := by decide +kernel
def cL132 : List gA := cL131 ++ [(11, 3, [])]
theorem cF416 : zgn (gl cL131) 11 3 = gl cL132 := gl_gn
theorem cF417 : zhn (hl cW30) 65 = hl cW30 := hl_n (by decide +kernel)
theorem cF418 : (gl cL132).2.1 47 = 6 := by decide +kernel
def cL133 : List gA := cL132.set 47 (6, 9, [(5, 65), (4, 64), (3, 63), (2, 62), (1, 49), (0, 48)])
theorem cF419 : zgu (gl cL132) 47 5 (some 65) = gl cL133 := by
  rw [gl_gu (by decide +kernel), show (((cL132.getD 47 gD).1, (cL132.getD 47 gD).2.1, (5, 65) :: (cL132.getD 47 gD).2.2) : gA) = (6, 9, [(5, 65), (4, 64), (3, 63), (2, 62), (1, 49), (0, 48)]) by decide +kernel]
  rfl
theorem cF420 : (gl cL133).1 = 66 := by decide +kernel
def cL134 : List gA := cL133 ++ [(11, 4, [])]
theorem cF421 : zgn (gl cL133) 11 4 = gl cL134 := gl_gn
theorem cF422 : zhn (hl cW30) 66 = hl cW30 := hl_n (by decide +kernel)
theorem cF423 : (gl cL134).2.1 47 = 6 := by decide +kernel
def cL135 : List gA := cL134.set 47 (6, 9, [(6, 66), (5, 65), (4, 64), (3, 63), (2, 62), (1, 49), (0, 48)])
theorem cF424 : zgu (gl cL134) 47 6 (some 66) = gl cL135 := by
  rw [gl_gu (by decide +kernel), show (((cL134.getD 47 gD).1, (cL134.getD 47 gD).2.1, (6, 66) :: (cL134.getD 47 gD).2.2) : gA) = (6, 9, [(6, 66), (5, 65), (4, 64), (3, 63), (2, 62), (1, 49), (0, 48)]) by decide +kernel]
  rfl
theorem cF425 : (gl cL135).1 = 67 := by decide +kernel
def cL136 : List gA := cL135 ++ [(10, 4, [])]
theorem cF426 : zgn (gl cL135) 10 4 = gl cL136 := gl_gn
theorem cF427 : zhn (hl cW30) 67 = hl cW30 := hl_n (by decide +kernel)
theorem cF428 : (gl cL136).2.1 47 = 6 := by decide +kernel
def cL137 : List gA := cL136.set 47 (6, 9, [(7, 67), (6, 66), (5, 65), (4, 64), (3, 63), (2, 62), (1, 49), (0, 48)])
theorem cF429 : zgu (gl cL136) 47 7 (some 67) = gl cL137 := by
  rw [gl_gu (by decide +kernel), show (((cL136.getD 47 gD).1, (cL136.getD 47 gD).2.1, (7, 67) :: (cL136.getD 47 gD).2.2) : gA) = (6, 9, [(7, 67), (6, 66), (5, 65), (4, 64), (3, 63), (2, 62), (1, 49), (0, 48)]) by decide +kernel]
  rfl
theorem cF430 : (gl cL137).1 = 68 := by decide +kernel
def cL138 : List gA := cL137 ++ [(10, 12, [])]
theorem cF431 : zgn (gl cL137) 10 12 = gl cL138 := gl_gn
theorem cF432 : zhn (hl cW30) 68 = hl cW30 := hl_n (by decide +kernel)
theorem cF433 : (gl cL138).2.1 47 = 6 := by decide +kernel
def cL139 : List gA := cL138.set 47 (6, 9, [(8, 68), (7, 67), (6, 66), (5, 65), (4, 64), (3, 63), (2, 62), (1, 49), (0, 48)])
theorem cF434 : zgu (gl cL138) 47 8 (some 68) = gl cL139 := by
  rw [gl_gu (by decide +kernel), show (((cL138.getD 47 gD).1, (cL138.getD 47 gD).2.1, (8, 68) :: (cL138.getD 47 gD).2.2) : gA) = (6, 9, [(8, 68), (7, 67), (6, 66), (5, 65), (4, 64), (3, 63), (2, 62), (1, 49), (0, 48)]) by decide +kernel]
  rfl
theorem cK9 {d : Nat} {Q : zQ} : zRunD ztb zmt' (d + 3) 52 [zR (some 47)] (gl cL96) (hl cW24) Q ↔ Q none (gl cL139) (hl cW30) := by
  rw [r52]
  have c0 := fun Q' => cK8 (d := d) (Q := Q')
  simp only [e52_0, e52_1, e52_4, e52_5, e52_8, e52_9, e52_12, e52_15, e52_16, e52_17, e52_20, e52_23, e52_26, e52_27, e52_28, e52_30, e52_33, e52_34, e52_35, e52_37, e52_40, e52_41, e52_42, e52_44, e52_47, e52_48, e52_49, e52_51, e52_54, e52_55, e52_56, e52_58, e52_61, e52_62, e52_63, e52_65, e52_68, e52_69, e52_71, e52_73, e52_76, zs0, zsI, zsL, zsR, ztl1, ztl0, zc0, zcI, zcL, zcR, true_and, and_true, true_implies, false_implies, implies_true, not_true_eq_false, not_false_eq_true, and_self, Int.toNat_natCast, Nat.reduceAdd, Nat.reduceLeDiff, Nat.reduceLT, forall_eq', Option.some.injEq, zarR, zarI, zarL, zle, zq0, zq1, zq2, zq3, zq4, zq5, zq6, zq8, zq9, zq10, zq20, zq7, zq12, zq24, zq40, zq41, zq48, zq100, zq120, zq123, zq480, zq492, zq700, zq729, zq2187, zq2916, zq8748, ne_eq, Int.reduceEq, Int.reduceLT, Int.reduceLE, Int.reduceToNat, Int.reduceMul, Int.reduceAdd, Int.reduceNeg, Nat.reduceMul, or_true, true_or, cF310, cF311, cF312, cF313, cF392, cF393, cF394, cF395, cF396, cF397, cF398, cF399, cF400, cF401, cF402, cF403, cF404, cF405, cF406, cF407, cF408, cF409, cF410, cF411, cF412, cF413, cF414, cF415, cF416, cF417, cF418, cF419, cF420, cF421, cF422, cF423, cF424, cF425, cF426, cF427, cF428, cF429, cF430, cF431, cF432, cF433, cF434, c0]
theorem cF435 : (gl cL139).2.1 46 = 4 := by decide +kernel
def cL140 : List gA := cL139.set 46 (4, 15, [(0, 47)])
theorem cF436 : zgu (gl cL139) 46 0 (some 47) = gl cL140 := by
  rw [gl_gu (by decide +kernel), show (((cL139.getD 46 gD).1, (cL139.getD 46 gD).2.1, (0, 47) :: (cL139.getD 46 gD).2.2) : gA) = (4, 15, [(0, 47)]) by decide +kernel]
  rfl
theorem cF437 : (gl cL140).2.1 46 = 4 := by decide +kernel
theorem cF438 : (gl cL140).2.2.2 46 0 = some 47 := by decide +kernel
theorem cF439 : (gl cL140).2.1 47 = 6 := by decide +kernel
theorem cF440 : (gl cL140).2.2.2 47 0 = some 48 := by decide +kernel
theorem cF441 : (gl cL140).2.1 46 = 4 := by decide +kernel
def cL141 : List gA := cL140.set 46 (4, 15, [(1, 48), (0, 47)])
theorem cF442 : zgu (gl cL140) 46 1 (some 48) = gl cL141 := by
  rw [gl_gu (by decide +kernel), show (((cL140.getD 46 gD).1, (cL140.getD 46 gD).2.1, (1, 48) :: (cL140.getD 46 gD).2.2) : gA) = (4, 15, [(1, 48), (0, 47)]) by decide +kernel]
  rfl
theorem cF443 : (gl cL141).2.1 46 = 4 := by decide +kernel
theorem cF444 : (gl cL141).2.2.2 46 1 = some 48 := by decide +kernel
theorem cF445 : (gl cL141).2.1 48 = 1 := by decide +kernel
theorem cF446 : (gl cL141).2.2.2 48 0 = some 49 := by decide +kernel
theorem cF447 : (gl cL141).2.1 46 = 4 := by decide +kernel
def cL142 : List gA := cL141.set 46 (4, 15, [(2, 49), (1, 48), (0, 47)])
theorem cF448 : zgu (gl cL141) 46 2 (some 49) = gl cL142 := by
  rw [gl_gu (by decide +kernel), show (((cL141.getD 46 gD).1, (cL141.getD 46 gD).2.1, (2, 49) :: (cL141.getD 46 gD).2.2) : gA) = (4, 15, [(2, 49), (1, 48), (0, 47)]) by decide +kernel]
  rfl
theorem cF449 : (gl cL142).1 = 69 := by decide +kernel
def cL143 : List gA := cL142 ++ [(10, 3, [])]
theorem cF450 : zgn (gl cL142) 10 3 = gl cL143 := gl_gn
theorem cF451 : zhn (hl cW30) 69 = hl cW30 := hl_n (by decide +kernel)
theorem cF452 : (gl cL143).2.1 46 = 4 := by decide +kernel
def cL144 : List gA := cL143.set 46 (4, 15, [(3, 69), (2, 49), (1, 48), (0, 47)])
theorem cF453 : zgu (gl cL143) 46 3 (some 69) = gl cL144 := by
  rw [gl_gu (by decide +kernel), show (((cL143.getD 46 gD).1, (cL143.getD 46 gD).2.1, (3, 69) :: (cL143.getD 46 gD).2.2) : gA) = (4, 15, [(3, 69), (2, 49), (1, 48), (0, 47)]) by decide +kernel]
  rfl
theorem cF454 : (gl cL144).1 = 70 := by decide +kernel
def cL145 : List gA := cL144 ++ [(10, 3, [])]
theorem cF455 : zgn (gl cL144) 10 3 = gl cL145 := gl_gn
theorem cF456 : zhn (hl cW30) 70 = hl cW30 := hl_n (by decide +kernel)
theorem cF457 : (gl cL145).2.1 46 = 4 := by decide +kernel
def cL146 : List gA := cL145.set 46 (4, 15, [(4, 70), (3, 69), (2, 49), (1, 48), (0, 47)])
theorem cF458 : zgu (gl cL145) 46 4 (some 70) = gl cL146 := by
  rw [gl_gu (by decide +kernel), show (((cL145.getD 46 gD).1, (cL145.getD 46 gD).2.1, (4, 70) :: (cL145.getD 46 gD).2.2) : gA) = (4, 15, [(4, 70), (3, 69), (2, 49), (1, 48), (0, 47)]) by decide +kernel]
  rfl
theorem cF459 : (gl cL146).2.1 46 = 4 := by decide +kernel
def cW31 : List (Nat × Nat × Int) := (46, 5, 0) :: cW30
theorem cF460 : zu (hl cW30) 46 5 0 = hl cW31 := hl_u
theorem cF461 : (gl cL146).1 = 71 := by decide +kernel
def cL147 : List gA := cL146 ++ [(10, 2916, [])]
theorem cF462 : zgn (gl cL146) 10 2916 = gl cL147 := gl_gn
theorem cF463 : zhn (hl cW31) 71 = hl cW31 := hl_n (by decide +kernel)
theorem cF464 : (gl cL147).2.1 46 = 4 := by decide +kernel
def cL148 : List gA := cL147.set 46 (4, 15, [(6, 71), (4, 70), (3, 69), (2, 49), (1, 48), (0, 47)])
theorem cF465 : zgu (gl cL147) 46 6 (some 71) = gl cL148 := by
  rw [gl_gu (by decide +kernel), show (((cL147.getD 46 gD).1, (cL147.getD 46 gD).2.1, (6, 71) :: (cL147.getD 46 gD).2.2) : gA) = (4, 15, [(6, 71), (4, 70), (3, 69), (2, 49), (1, 48), (0, 47)]) by decide +kernel]
  rfl
theorem cF466 : (gl cL148).1 = 72 := by decide +kernel
def cL149 : List gA := cL148 ++ [(10, 729, [])]
theorem cF467 : zgn (gl cL148) 10 729 = gl cL149 := gl_gn
theorem cF468 : zhn (hl cW31) 72 = hl cW31 := hl_n (by decide +kernel)
theorem cF469 : (gl cL149).2.1 46 = 4 := by decide +kernel
def cL150 : List gA := cL149.set 46 (4, 15, [(7, 72), (6, 71), (4, 70), (3, 69), (2, 49), (1, 48), (0, 47)])
theorem cF470 : zgu (gl cL149) 46 7 (some 72) = gl cL150 := by
  rw [gl_gu (by decide +kernel), show (((cL149.getD 46 gD).1, (cL149.getD 46 gD).2.1, (7, 72) :: (cL149.getD 46 gD).2.2) : gA) = (4, 15, [(7, 72), (6, 71), (4, 70), (3, 69), (2, 49), (1, 48), (0, 47)]) by decide +kernel]
  rfl
theorem cF471 : (gl cL150).1 = 73 := by decide +kernel
def cL151 : List gA := cL150 ++ [(11, 2187, [])]
theorem cF472 : zgn (gl cL150) 11 2187 = gl cL151 := gl_gn
theorem cF473 : zhn (hl cW31) 73 = hl cW31 := hl_n (by decide +kernel)
theorem cF474 : (gl cL151).2.1 46 = 4 := by decide +kernel
def cL152 : List gA := cL151.set 46 (4, 15, [(8, 73), (7, 72), (6, 71), (4, 70), (3, 69), (2, 49), (1, 48), (0, 47)])
theorem cF475 : zgu (gl cL151) 46 8 (some 73) = gl cL152 := by
  rw [gl_gu (by decide +kernel), show (((cL151.getD 46 gD).1, (cL151.getD 46 gD).2.1, (8, 73) :: (cL151.getD 46 gD).2.2) : gA) = (4, 15, [(8, 73), (7, 72), (6, 71), (4, 70), (3, 69), (2, 49), (1, 48), (0, 47)]) by decide +kernel]
  rfl
theorem cF476 : (gl cL152).1 = 74 := by decide +kernel
def cL153 : List gA := cL152 ++ [(11, 2187, [])]
theorem cF477 : zgn (gl cL152) 11 2187 = gl cL153 := gl_gn
theorem cF478 : zhn (hl cW31) 74 = hl cW31 := hl_n (by decide +kernel)
theorem cF479 : (gl cL153).2.1 46 = 4 := by decide +kernel
def cL154 : List gA := cL153.set 46 (4, 15, [(9, 74), (8, 73), (7, 72), (6, 71), (4, 70), (3, 69), (2, 49), (1, 48), (0, 47)])
theorem cF480 : zgu (gl cL153) 46 9 (some 74) = gl cL154 := by
  rw [gl_gu (by decide +kernel), show (((cL153.getD 46 gD).1, (cL153.getD 46 gD).2.1, (9, 74) :: (cL153.getD 46 gD).2.2) : gA) = (4, 15, [(9, 74), (8, 73), (7, 72), (6, 71), (4, 70), (3, 69), (2, 49), (1, 48), (0, 47)]) by decide +kernel]
  rfl
theorem cF481 : (gl cL154).1 = 75 := by decide +kernel
def cL155 : List gA := cL154 ++ [(14, 4, [(0, 76), (1, 77), (2, 78), (3, 79)]), (10, 12, []), (10, 12, []), (10, 12, []), (10, 12, [])]
theorem cF482 : zgm (gl cL154) 14 10 4 12 = gl cL155 := by
  rw [gl_gm, show ((List.range 4).map (fun i => (i, cL154.length + 1 + i))) = [(0, 76), (1, 77), (2, 78), (3, 79)] by decide +kernel]
  rfl
theorem cF483 : zhm (hl cW31) 75 4 = hl cW31 := hl_m (by decide +kernel)
theorem cF484 : (gl cL155).2.1 46 = 4 := by decide +kernel
def cL156 : List gA := cL155.set 46 (4, 15, [(10, 75), (9, 74), (8, 73), (7, 72), (6, 71), (4, 70), (3, 69), (2, 49), (1, 48), (0, 47)])
theorem cF485 : zgu (gl cL155) 46 10 (some 75) = gl cL156 := by
  rw [gl_gu (by decide +kernel), show (((cL155.getD 46 gD).1, (cL155.getD 46 gD).2.1, (10, 75) :: (cL155.getD 46 gD).2.2) : gA) = (4, 15, [(10, 75), (9, 74), (8, 73), (7, 72), (6, 71), (4, 70), (3, 69), (2, 49), (1, 48), (0, 47)]) by decide +kernel]
  rfl
theorem cF486 : (gl cL156).1 = 80 := by decide +kernel
def cL157 : List gA := cL156 ++ [(15, 4, [(0, 81), (1, 82), (2, 83), (3, 84)]), (11, 3, []), (11, 3, []), (11, 3, []), (11, 3, [])]
theorem cF487 : zgm (gl cL156) 15 11 4 3 = gl cL157 := by
  rw [gl_gm, show ((List.range 4).map (fun i => (i, cL156.length + 1 + i))) = [(0, 81), (1, 82), (2, 83), (3, 84)] by decide +kernel]
  rfl
theorem cF488 : zhm (hl cW31) 80 4 = hl cW31 := hl_m (by decide +kernel)
theorem cF489 : (gl cL157).2.1 46 = 4 := by decide +kernel
def cL158 : List gA := cL157.set 46 (4, 15, [(11, 80), (10, 75), (9, 74), (8, 73), (7, 72), (6, 71), (4, 70), (3, 69), (2, 49), (1, 48), (0, 47)])
theorem cF490 : zgu (gl cL157) 46 11 (some 80) = gl cL158 := by
  rw [gl_gu (by decide +kernel), show (((cL157.getD 46 gD).1, (cL157.getD 46 gD).2.1, (11, 80) :: (cL157.getD 46 gD).2.2) : gA) = (4, 15, [(11, 80), (10, 75), (9, 74), (8, 73), (7, 72), (6, 71), (4, 70), (3, 69), (2, 49), (1, 48), (0, 47)]) by decide +kernel]
  rfl
theorem cF491 : (gl cL158).1 = 85 := by decide +kernel
def cL159 : List gA := cL158 ++ [(11, 4, [])]
theorem cF492 : zgn (gl cL158) 11 4 = gl cL159 := gl_gn
theorem cF493 : zhn (hl cW31) 85 = hl cW31 := hl_n (by decide +kernel)
theorem cF494 : (gl cL159).2.1 46 = 4 := by decide +kernel
def cL160 : List gA := cL159.set 46 (4, 15, [(12, 85), (11, 80), (10, 75), (9, 74), (8, 73), (7, 72), (6, 71), (4, 70), (3, 69), (2, 49), (1, 48), (0, 47)])
theorem cF495 : zgu (gl cL159) 46 12 (some 85) = gl cL160 := by
  rw [gl_gu (by decide +kernel), show (((cL159.getD 46 gD).1, (cL159.getD 46 gD).2.1, (12, 85) :: (cL159.getD 46 gD).2.2) : gA) = (4, 15, [(12, 85), (11, 80), (10, 75), (9, 74), (8, 73), (7, 72), (6, 71), (4, 70), (3, 69), (2, 49), (1, 48), (0, 47)]) by decide +kernel]
  rfl
theorem cF496 : (gl cL160).1 = 86 := by decide +kernel
def cL161 : List gA := cL160 ++ [(11, 4, [])]
theorem cF497 : zgn (gl cL160) 11 4 = gl cL161 := gl_gn
theorem cF498 : zhn (hl cW31) 86 = hl cW31 := hl_n (by decide +kernel)
theorem cF499 : (gl cL161).2.1 46 = 4 := by decide +kernel
def cL162 : List gA := cL161.set 46 (4, 15, [(13, 86), (12, 85), (11, 80), (10, 75), (9, 74), (8, 73), (7, 72), (6, 71), (4, 70), (3, 69), (2, 49), (1, 48), (0, 47)])
theorem cF500 : zgu (gl cL161) 46 13 (some 86) = gl cL162 := by
  rw [gl_gu (by decide +kernel), show (((cL161.getD 46 gD).1, (cL161.getD 46 gD).2.1, (13, 86) :: (cL161.getD 46 gD).2.2) : gA) = (4, 15, [(13, 86), (12, 85), (11, 80), (10, 75), (9, 74), (8, 73), (7, 72), (6, 71), (4, 70), (3, 69), (2, 49), (1, 48), (0, 47)]) by decide +kernel]
  rfl
theorem cF501 : (gl cL162).2.1 46 = 4 := by decide +kernel
def cW32 : List (Nat × Nat × Int) := (46, 14, 0) :: cW31
theorem cF502 : zu (hl cW31) 46 14 0 = hl cW32 := hl_u
theorem cK10 {d : Nat} {Q : zQ} : zRunD ztb zmt' (d + 4) 31 [zR (some 46)] (gl cL95) (hl cW24) Q ↔ Q none (gl cL162) (hl cW32) := by
  rw [r31]
  have c0 := fun Q' => cK9 (d := d) (Q := Q')
  simp only [e31_0, e31_1, e31_4, e31_5, e31_8, e31_9, e31_12, e31_15, e31_16, e31_17, e31_20, e31_23, e31_26, e31_27, e31_28, e31_31, e31_34, e31_37, e31_38, e31_39, e31_41, e31_44, e31_45, e31_46, e31_48, e31_51, e31_52, e31_53, e31_56, e31_57, e31_60, e31_62, e31_65, e31_66, e31_69, e31_71, e31_74, e31_75, e31_78, e31_80, e31_83, e31_84, e31_87, e31_89, e31_92, e31_93, e31_94, e31_96, e31_100, e31_103, e31_104, e31_105, e31_106, e31_110, e31_113, e31_114, e31_115, e31_117, e31_120, e31_121, e31_122, e31_124, e31_127, e31_128, e31_129, e31_132, zs0, zsI, zsL, zsR, ztl1, ztl0, zc0, zcI, zcL, zcR, true_and, and_true, true_implies, false_implies, implies_true, not_true_eq_false, not_false_eq_true, and_self, Int.toNat_natCast, Nat.reduceAdd, Nat.reduceLeDiff, Nat.reduceLT, forall_eq', Option.some.injEq, zarR, zarI, zarL, zle, zq0, zq1, zq2, zq3, zq4, zq5, zq6, zq8, zq9, zq10, zq20, zq7, zq12, zq24, zq40, zq41, zq48, zq100, zq120, zq123, zq480, zq492, zq700, zq729, zq2187, zq2916, zq8748, ne_eq, Int.reduceEq, Int.reduceLT, Int.reduceLE, Int.reduceToNat, Int.reduceMul, Int.reduceAdd, Int.reduceNeg, Nat.reduceMul, or_true, true_or, cF306, cF307, cF308, cF309, cF435, cF436, cF437, cF438, cF439, cF440, cF441, cF442, cF443, cF444, cF445, cF446, cF447, cF448, cF449, cF450, cF451, cF452, cF453, cF454, cF455, cF456, cF457, cF458, cF459, cF460, cF461, cF462, cF463, cF464, cF465, cF466, cF467, cF468, cF469, cF470, cF471, cF472, cF473, cF474, cF475, cF476, cF477, cF478, cF479, cF480, cF481, cF482, cF483, cF484, cF485, cF486, cF487, cF488, cF489, cF490, cF491, cF492, cF493, cF494, cF495, cF496, cF497, cF498, cF499, cF500, cF501, cF502, c0]
theorem cF503 : (gl cL162).2.1 0 = 7 := by decide +kernel
def cL163 : List gA := cL162.set 0 (7, 14, [(9, 46), (8, 45), (7, 38), (6, 18), (5, 17), (4, 16), (3, 6), (2, 2), (0, 1)])
theorem cF504 : zgu (gl cL162) 0 9 (some 46) = gl cL163 := by
  rw [gl_gu (by decide +kernel), show (((cL162.getD 0 gD).1, (cL162.getD 0 gD).2.1, (9, 46) :: (cL162.getD 0 gD).2.2) : gA) = (7, 14, [(9, 46), (8, 45), (7, 38), (6, 18), (5, 17), (4, 16), (3, 6), (2, 2), (0, 1)]) by decide +kernel]
  rfl
theorem cF505 : (gl cL163).1 = 87 := by decide +kernel
def cL164 : List gA := cL163 ++ [(2, 4, [])]
theorem cF506 : zgn (gl cL163) 2 4 = gl cL164 := gl_gn
theorem cF507 : zhn (hl cW32) 87 = hl cW32 := hl_n (by decide +kernel)
theorem cF508 : (gl cL164).2.1 87 = 2 := by decide +kernel
theorem cF509 : (gl cL164).2.1 87 = 2 := by decide +kernel
def cW33 : List (Nat × Nat × Int) := (87, 0, 0) :: cW32
theorem cF510 : zu (hl cW32) 87 0 0 = hl cW33 := hl_u
theorem cF511 : (gl cL164).1 = 88 := by decide +kernel
def cL165 : List gA := cL164 ++ [(10, 3, [])]
theorem cF512 : zgn (gl cL164) 10 3 = gl cL165 := gl_gn
theorem cF513 : zhn (hl cW33) 88 = hl cW33 := hl_n (by decide +kernel)
theorem cF514 : (gl cL165).2.1 87 = 2 := by decide +kernel
def cL166 : List gA := cL165.set 87 (2, 4, [(1, 88)])
theorem cF515 : zgu (gl cL165) 87 1 (some 88) = gl cL166 := by
  rw [gl_gu (by decide +kernel), show (((cL165.getD 87 gD).1, (cL165.getD 87 gD).2.1, (1, 88) :: (cL165.getD 87 gD).2.2) : gA) = (2, 4, [(1, 88)]) by decide +kernel]
  rfl
theorem cF516 : (gl cL166).1 = 89 := by decide +kernel
def cL167 : List gA := cL166 ++ [(10, 3, [])]
theorem cF517 : zgn (gl cL166) 10 3 = gl cL167 := gl_gn
theorem cF518 : zhn (hl cW33) 89 = hl cW33 := hl_n (by decide +kernel)
theorem cF519 : (gl cL167).2.1 87 = 2 := by decide +kernel
def cL168 : List gA := cL167.set 87 (2, 4, [(2, 89), (1, 88)])
theorem cF520 : zgu (gl cL167) 87 2 (some 89) = gl cL168 := by
  rw [gl_gu (by decide +kernel), show (((cL167.getD 87 gD).1, (cL167.getD 87 gD).2.1, (2, 89) :: (cL167.getD 87 gD).2.2) : gA) = (2, 4, [(2, 89), (1, 88)]) by decide +kernel]
  rfl
theorem cF521 : (gl cL168).1 = 90 := by decide +kernel
def cL169 : List gA := cL168 ++ [(11, 3, [])]
theorem cF522 : zgn (gl cL168) 11 3 = gl cL169 := gl_gn
theorem cF523 : zhn (hl cW33) 90 = hl cW33 := hl_n (by decide +kernel)
theorem cF524 : (gl cL169).2.1 87 = 2 := by decide +kernel
def cL170 : List gA := cL169.set 87 (2, 4, [(3, 90), (2, 89), (1, 88)])
theorem cF525 : zgu (gl cL169) 87 3 (some 90) = gl cL170 := by
  rw [gl_gu (by decide +kernel), show (((cL169.getD 87 gD).1, (cL169.getD 87 gD).2.1, (3, 90) :: (cL169.getD 87 gD).2.2) : gA) = (2, 4, [(3, 90), (2, 89), (1, 88)]) by decide +kernel]
  rfl
theorem cK11 {d : Nat} {Q : zQ} : zRunD ztb zmt' (d + 1) 12 [zR (some 87)] (gl cL164) (hl cW32) Q ↔ Q none (gl cL170) (hl cW33) := by
  rw [r12]
  simp only [e12_0, e12_1, e12_4, e12_5, e12_6, e12_9, e12_10, e12_11, e12_13, e12_16, e12_17, e12_18, e12_20, e12_23, e12_24, e12_25, e12_27, e12_30, zs0, zsI, zsL, zsR, ztl1, ztl0, zc0, zcI, zcL, zcR, true_and, and_true, true_implies, false_implies, implies_true, not_true_eq_false, not_false_eq_true, and_self, Int.toNat_natCast, Nat.reduceAdd, Nat.reduceLeDiff, Nat.reduceLT, forall_eq', Option.some.injEq, zarR, zarI, zarL, zle, zq0, zq1, zq2, zq3, zq4, zq5, zq6, zq8, zq9, zq10, zq20, zq7, zq12, zq24, zq40, zq41, zq48, zq100, zq120, zq123, zq480, zq492, zq700, zq729, zq2187, zq2916, zq8748, ne_eq, Int.reduceEq, Int.reduceLT, Int.reduceLE, Int.reduceToNat, Int.reduceMul, Int.reduceAdd, Int.reduceNeg, Nat.reduceMul, or_true, true_or, cF509, cF510, cF511, cF512, cF513, cF514, cF515, cF516, cF517, cF518, cF519, cF520, cF521, cF522, cF523, cF524, cF525]
theorem cF526 : (gl cL170).2.1 0 = 7 := by decide +kernel
def cL171 : List gA := cL170.set 0 (7, 14, [(10, 87), (9, 46), (8, 45), (7, 38), (6, 18), (5, 17), (4, 16), (3, 6), (2, 2), (0, 1)])
theorem cF527 : zgu (gl cL170) 0 10 (some 87) = gl cL171 := by
  rw [gl_gu (by decide +kernel), show (((cL170.getD 0 gD).1, (cL170.getD 0 gD).2.1, (10, 87) :: (cL170.getD 0 gD).2.2) : gA) = (7, 14, [(10, 87), (9, 46), (8, 45), (7, 38), (6, 18), (5, 17), (4, 16), (3, 6), (2, 2), (0, 1)]) by decide +kernel]
  rfl
theorem cF528 : (gl cL171).2.1 0 = 7 := by decide +kernel
def cW34 : List (Nat × Nat × Int) := (0, 11, 0) :: cW33
theorem cF529 : zu (hl cW33) 0 11 0 = hl cW34 := hl_u
theorem cF530 : (gl cL171).2.1 0 = 7 := by decide +kernel
def cW35 : List (Nat × Nat × Int) := (0, 12, 0) :: cW34
theorem cF531 : zu (hl cW34) 0 12 0 = hl cW35 := hl_u
theorem cF532 : (gl cL171).2.1 0 = 7 := by decide +kernel
def cW36 : List (Nat × Nat × Int) := (0, 13, (-1)) :: cW35
theorem cF533 : zu (hl cW35) 0 13 (-1) = hl cW36 := hl_u
theorem cK12 {d : Nat} {Q : zQ} : zRunD ztb zmt' (d + 5) 57 [zR (some 0)] (gl cL1) (hl cW0) Q ↔ Q none (gl cL171) (hl cW36) := by
  rw [r57]
  have c0 := fun Q' => cK1 (d := d + 3) (Q := Q')
  have c1 := fun Q' => cK2 (d := d + 3) (Q := Q')
  have c2 := fun Q' => cK5 (d := d + 1) (Q := Q')
  have c3 := fun Q' => cK6 (d := d + 3) (Q := Q')
  have c4 := fun Q' => cK10 (d := d) (Q := Q')
  have c5 := fun Q' => cK11 (d := d + 3) (Q := Q')
  simp only [e57_0, e57_1, e57_4, e57_5, e57_8, e57_10, e57_13, e57_14, e57_15, e57_18, e57_19, e57_22, e57_23, e57_26, e57_29, e57_30, e57_33, e57_34, e57_37, e57_40, e57_41, e57_44, e57_45, e57_48, e57_51, e57_52, e57_53, e57_56, e57_59, e57_62, e57_63, e57_64, e57_67, e57_70, e57_73, e57_74, e57_77, e57_78, e57_81, e57_84, e57_85, e57_86, e57_88, e57_91, e57_92, e57_95, e57_96, e57_99, e57_102, e57_103, e57_106, e57_107, e57_110, e57_113, e57_114, e57_115, e57_118, e57_119, e57_120, e57_123, e57_124, e57_125, e57_128, zs0, zsI, zsL, zsR, ztl1, ztl0, zc0, zcI, zcL, zcR, true_and, and_true, true_implies, false_implies, implies_true, not_true_eq_false, not_false_eq_true, and_self, Int.toNat_natCast, Nat.reduceAdd, Nat.reduceLeDiff, Nat.reduceLT, forall_eq', Option.some.injEq, zarR, zarI, zarL, zle, zq0, zq1, zq2, zq3, zq4, zq5, zq6, zq8, zq9, zq10, zq20, zq7, zq12, zq24, zq40, zq41, zq48, zq100, zq120, zq123, zq480, zq492, zq700, zq729, zq2187, zq2916, zq8748, ne_eq, Int.reduceEq, Int.reduceLT, Int.reduceLE, Int.reduceToNat, Int.reduceMul, Int.reduceAdd, Int.reduceNeg, Nat.reduceMul, or_true, true_or, cF5, cF6, cF7, cF8, cF9, cF10, cF11, cF12, cF13, cF14, cF15, cF53, cF54, cF55, cF56, cF57, cF58, cF114, cF115, cF116, cF117, cF118, cF119, cF245, cF246, cF247, cF248, cF249, cF250, cF251, cF252, cF253, cF254, cF255, cF256, cF257, cF258, cF259, cF260, cF261, cF262, cF295, cF296, cF297, cF298, cF299, cF300, cF301, cF302, cF303, cF304, cF305, cF503, cF504, cF505, cF506, cF507, cF508, cF526, cF527, cF528, cF529, cF530, cF531, cF532, cF533, c0, c1, c2, c3, c4, c5]
theorem cF534 : (gl cL171).1 = 91 := by decide +kernel
def cL172 : List gA := cL171 ++ [(9, 53, [])]
theorem cF535 : zgn (gl cL171) 9 53 = gl cL172 := gl_gn
theorem cF536 : zhn (hl cW36) 91 = hl cW36 := hl_n (by decide +kernel)
theorem cF537 : (gl cL172).2.1 91 = 9 := by decide +kernel
theorem cF538 : (gl cL172).2.1 91 = 9 := by decide +kernel
def cW37 : List (Nat × Nat × Int) := (91, 2, (-1)) :: cW36
theorem cF539 : zu (hl cW36) 91 2 (-1) = hl cW37 := hl_u
theorem cF540 : (gl cL172).1 = 92 := by decide +kernel
def cL173 : List gA := cL172 ++ [(12, 700, [])]
theorem cF541 : zgn (gl cL172) 12 700 = gl cL173 := gl_gn
theorem cF542 : zhn (hl cW37) 92 = hl cW37 := hl_n (by decide +kernel)
theorem cF543 : (gl cL173).2.1 91 = 9 := by decide +kernel
def cL174 : List gA := cL173.set 91 (9, 53, [(5, 92)])
theorem cF544 : zgu (gl cL173) 91 5 (some 92) = gl cL174 := by
  rw [gl_gu (by decide +kernel), show (((cL173.getD 91 gD).1, (cL173.getD 91 gD).2.1, (5, 92) :: (cL173.getD 91 gD).2.2) : gA) = (9, 53, [(5, 92)]) by decide +kernel]
  rfl
theorem cF545 : (gl cL174).1 = 93 := by decide +kernel
def cL175 : List gA := cL174 ++ [(10, 3, [])]
theorem cF546 : zgn (gl cL174) 10 3 = gl cL175 := gl_gn
theorem cF547 : zhn (hl cW37) 93 = hl cW37 := hl_n (by decide +kernel)
theorem cF548 : (gl cL175).2.1 91 = 9 := by decide +kernel
def cL176 : List gA := cL175.set 91 (9, 53, [(22, 93), (5, 92)])
theorem cF549 : zgu (gl cL175) 91 22 (some 93) = gl cL176 := by
  rw [gl_gu (by decide +kernel), show (((cL175.getD 91 gD).1, (cL175.getD 91 gD).2.1, (22, 93) :: (cL175.getD 91 gD).2.2) : gA) = (9, 53, [(22, 93), (5, 92)]) by decide +kernel]
  rfl
theorem cF550 : (gl cL176).1 = 94 := by decide +kernel
def cL177 : List gA := cL176 ++ [(10, 3, [])]
theorem cF551 : zgn (gl cL176) 10 3 = gl cL177 := gl_gn
theorem cF552 : zhn (hl cW37) 94 = hl cW37 := hl_n (by decide +kernel)
theorem cF553 : (gl cL177).2.1 91 = 9 := by decide +kernel
def cL178 : List gA := cL177.set 91 (9, 53, [(23, 94), (22, 93), (5, 92)])
theorem cF554 : zgu (gl cL177) 91 23 (some 94) = gl cL178 := by
  rw [gl_gu (by decide +kernel), show (((cL177.getD 91 gD).1, (cL177.getD 91 gD).2.1, (23, 94) :: (cL177.getD 91 gD).2.2) : gA) = (9, 53, [(23, 94), (22, 93), (5, 92)]) by decide +kernel]
  rfl
theorem cF555 : (gl cL178).1 = 95 := by decide +kernel
def cL179 : List gA := cL178 ++ [(10, 3, [])]
theorem cF556 : zgn (gl cL178) 10 3 = gl cL179 := gl_gn
theorem cF557 : zhn (hl cW37) 95 = hl cW37 := hl_n (by decide +kernel)
theorem cF558 : (gl cL179).2.1 91 = 9 := by decide +kernel
def cL180 : List gA := cL179.set 91 (9, 53, [(24, 95), (23, 94), (22, 93), (5, 92)])
theorem cF559 : zgu (gl cL179) 91 24 (some 95) = gl cL180 := by
  rw [gl_gu (by decide +kernel), show (((cL179.getD 91 gD).1, (cL179.getD 91 gD).2.1, (24, 95) :: (cL179.getD 91 gD).2.2) : gA) = (9, 53, [(24, 95), (23, 94), (22, 93), (5, 92)]) by decide +kernel]
  rfl
theorem cF560 : (gl cL180).1 = 96 := by decide +kernel
def cL181 : List gA := cL180 ++ [(10, 3, [])]
theorem cF561 : zgn (gl cL180) 10 3 = gl cL181 := gl_gn
theorem cF562 : zhn (hl cW37) 96 = hl cW37 := hl_n (by decide +kernel)
theorem cF563 : (gl cL181).2.1 91 = 9 := by decide +kernel
def cL182 : List gA := cL181.set 91 (9, 53, [(25, 96), (24, 95), (23, 94), (22, 93), (5, 92)])
theorem cF564 : zgu (gl cL181) 91 25 (some 96) = gl cL182 := by
  rw [gl_gu (by decide +kernel), show (((cL181.getD 91 gD).1, (cL181.getD 91 gD).2.1, (25, 96) :: (cL181.getD 91 gD).2.2) : gA) = (9, 53, [(25, 96), (24, 95), (23, 94), (22, 93), (5, 92)]) by decide +kernel]
  rfl
theorem cF565 : (gl cL182).1 = 97 := by decide +kernel
def cL183 : List gA := cL182 ++ [(10, 4, [])]
theorem cF566 : zgn (gl cL182) 10 4 = gl cL183 := gl_gn
theorem cF567 : zhn (hl cW37) 97 = hl cW37 := hl_n (by decide +kernel)
theorem cF568 : (gl cL183).2.1 91 = 9 := by decide +kernel
def cL184 : List gA := cL183.set 91 (9, 53, [(26, 97), (25, 96), (24, 95), (23, 94), (22, 93), (5, 92)])
theorem cF569 : zgu (gl cL183) 91 26 (some 97) = gl cL184 := by
  rw [gl_gu (by decide +kernel), show (((cL183.getD 91 gD).1, (cL183.getD 91 gD).2.1, (26, 97) :: (cL183.getD 91 gD).2.2) : gA) = (9, 53, [(26, 97), (25, 96), (24, 95), (23, 94), (22, 93), (5, 92)]) by decide +kernel]
  rfl
theorem cF570 : (gl cL184).1 = 98 := by decide +kernel
def cL185 : List gA := cL184 ++ [(10, 4, [])]
theorem cF571 : zgn (gl cL184) 10 4 = gl cL185 := gl_gn
theorem cF572 : zhn (hl cW37) 98 = hl cW37 := hl_n (by decide +kernel)
theorem cF573 : (gl cL185).2.1 91 = 9 := by decide +kernel
def cL186 : List gA := cL185.set 91 (9, 53, [(27, 98), (26, 97), (25, 96), (24, 95), (23, 94), (22, 93), (5, 92)])
theorem cF574 : zgu (gl cL185) 91 27 (some 98) = gl cL186 := by
  rw [gl_gu (by decide +kernel), show (((cL185.getD 91 gD).1, (cL185.getD 91 gD).2.1, (27, 98) :: (cL185.getD 91 gD).2.2) : gA) = (9, 53, [(27, 98), (26, 97), (25, 96), (24, 95), (23, 94), (22, 93), (5, 92)]) by decide +kernel]
  rfl
theorem cF575 : (gl cL186).1 = 99 := by decide +kernel
def cL187 : List gA := cL186 ++ [(10, 12, [])]
theorem cF576 : zgn (gl cL186) 10 12 = gl cL187 := gl_gn
theorem cF577 : zhn (hl cW37) 99 = hl cW37 := hl_n (by decide +kernel)
theorem cF578 : (gl cL187).2.1 91 = 9 := by decide +kernel
def cL188 : List gA := cL187.set 91 (9, 53, [(28, 99), (27, 98), (26, 97), (25, 96), (24, 95), (23, 94), (22, 93), (5, 92)])
theorem cF579 : zgu (gl cL187) 91 28 (some 99) = gl cL188 := by
  rw [gl_gu (by decide +kernel), show (((cL187.getD 91 gD).1, (cL187.getD 91 gD).2.1, (28, 99) :: (cL187.getD 91 gD).2.2) : gA) = (9, 53, [(28, 99), (27, 98), (26, 97), (25, 96), (24, 95), (23, 94), (22, 93), (5, 92)]) by decide +kernel]
  rfl
theorem cF580 : (gl cL188).1 = 100 := by decide +kernel
def cL189 : List gA := cL188 ++ [(10, 4, [])]
theorem cF581 : zgn (gl cL188) 10 4 = gl cL189 := gl_gn
theorem cF582 : zhn (hl cW37) 100 = hl cW37 := hl_n (by decide +kernel)
theorem cF583 : (gl cL189).2.1 91 = 9 := by decide +kernel
def cL190 : List gA := cL189.set 91 (9, 53, [(29, 100), (28, 99), (27, 98), (26, 97), (25, 96), (24, 95), (23, 94), (22, 93), (5, 92)])
theorem cF584 : zgu (gl cL189) 91 29 (some 100) = gl cL190 := by
  rw [gl_gu (by decide +kernel), show (((cL189.getD 91 gD).1, (cL189.getD 91 gD).2.1, (29, 100) :: (cL189.getD 91 gD).2.2) : gA) = (9, 53, [(29, 100), (28, 99), (27, 98), (26, 97), (25, 96), (24, 95), (23, 94), (22, 93), (5, 92)]) by decide +kernel]
  rfl
theorem cF585 : (gl cL190).1 = 101 := by decide +kernel
def cL191 : List gA := cL190 ++ [(10, 24, [])]
theorem cF586 : zgn (gl cL190) 10 24 = gl cL191 := gl_gn
theorem cF587 : zhn (hl cW37) 101 = hl cW37 := hl_n (by decide +kernel)
theorem cF588 : (gl cL191).2.1 91 = 9 := by decide +kernel
def cL192 : List gA := cL191.set 91 (9, 53, [(32, 101), (29, 100), (28, 99), (27, 98), (26, 97), (25, 96), (24, 95), (23, 94), (22, 93), (5, 92)])
theorem cF589 : zgu (gl cL191) 91 32 (some 101) = gl cL192 := by
  rw [gl_gu (by decide +kernel), show (((cL191.getD 91 gD).1, (cL191.getD 91 gD).2.1, (32, 101) :: (cL191.getD 91 gD).2.2) : gA) = (9, 53, [(32, 101), (29, 100), (28, 99), (27, 98), (26, 97), (25, 96), (24, 95), (23, 94), (22, 93), (5, 92)]) by decide +kernel]
  rfl
theorem cF590 : (gl cL192).1 = 102 := by decide +kernel
def cL193 : List gA := cL192 ++ [(10, 3, [])]
theorem cF591 : zgn (gl cL192) 10 3 = gl cL193 := gl_gn
theorem cF592 : zhn (hl cW37) 102 = hl cW37 := hl_n (by decide +kernel)
theorem cF593 : (gl cL193).2.1 91 = 9 := by decide +kernel
def cL194 : List gA := cL193.set 91 (9, 53, [(33, 102), (32, 101), (29, 100), (28, 99), (27, 98), (26, 97), (25, 96), (24, 95), (23, 94), (22, 93), (5, 92)])
theorem cF594 : zgu (gl cL193) 91 33 (some 102) = gl cL194 := by
  rw [gl_gu (by decide +kernel), show (((cL193.getD 91 gD).1, (cL193.getD 91 gD).2.1, (33, 102) :: (cL193.getD 91 gD).2.2) : gA) = (9, 53, [(33, 102), (32, 101), (29, 100), (28, 99), (27, 98), (26, 97), (25, 96), (24, 95), (23, 94), (22, 93), (5, 92)]) by decide +kernel]
  rfl
theorem cF595 : (gl cL194).1 = 103 := by decide +kernel
def cL195 : List gA := cL194 ++ [(10, 3, [])]
theorem cF596 : zgn (gl cL194) 10 3 = gl cL195 := gl_gn
theorem cF597 : zhn (hl cW37) 103 = hl cW37 := hl_n (by decide +kernel)
theorem cF598 : (gl cL195).2.1 91 = 9 := by decide +kernel
def cL196 : List gA := cL195.set 91 (9, 53, [(34, 103), (33, 102), (32, 101), (29, 100), (28, 99), (27, 98), (26, 97), (25, 96), (24, 95), (23, 94), (22, 93), (5, 92)])
theorem cF599 : zgu (gl cL195) 91 34 (some 103) = gl cL196 := by
  rw [gl_gu (by decide +kernel), show (((cL195.getD 91 gD).1, (cL195.getD 91 gD).2.1, (34, 103) :: (cL195.getD 91 gD).2.2) : gA) = (9, 53, [(34, 103), (33, 102), (32, 101), (29, 100), (28, 99), (27, 98), (26, 97), (25, 96), (24, 95), (23, 94), (22, 93), (5, 92)]) by decide +kernel]
  rfl
theorem cF600 : (gl cL196).1 = 104 := by decide +kernel
def cL197 : List gA := cL196 ++ [(10, 480, [])]
theorem cF601 : zgn (gl cL196) 10 480 = gl cL197 := gl_gn
theorem cF602 : zhn (hl cW37) 104 = hl cW37 := hl_n (by decide +kernel)
theorem cF603 : (gl cL197).2.1 91 = 9 := by decide +kernel
def cL198 : List gA := cL197.set 91 (9, 53, [(35, 104), (34, 103), (33, 102), (32, 101), (29, 100), (28, 99), (27, 98), (26, 97), (25, 96), (24, 95), (23, 94), (22, 93), (5, 92)])
theorem cF604 : zgu (gl cL197) 91 35 (some 104) = gl cL198 := by
  rw [gl_gu (by decide +kernel), show (((cL197.getD 91 gD).1, (cL197.getD 91 gD).2.1, (35, 104) :: (cL197.getD 91 gD).2.2) : gA) = (9, 53, [(35, 104), (34, 103), (33, 102), (32, 101), (29, 100), (28, 99), (27, 98), (26, 97), (25, 96), (24, 95), (23, 94), (22, 93), (5, 92)]) by decide +kernel]
  rfl
theorem cF605 : (gl cL198).1 = 105 := by decide +kernel
def cL199 : List gA := cL198 ++ [(10, 120, [])]
theorem cF606 : zgn (gl cL198) 10 120 = gl cL199 := gl_gn
theorem cF607 : zhn (hl cW37) 105 = hl cW37 := hl_n (by decide +kernel)
theorem cF608 : (gl cL199).2.1 91 = 9 := by decide +kernel
def cL200 : List gA := cL199.set 91 (9, 53, [(36, 105), (35, 104), (34, 103), (33, 102), (32, 101), (29, 100), (28, 99), (27, 98), (26, 97), (25, 96), (24, 95), (23, 94), (22, 93), (5, 92)])
theorem cF609 : zgu (gl cL199) 91 36 (some 105) = gl cL200 := by
  rw [gl_gu (by decide +kernel), show (((cL199.getD 91 gD).1, (cL199.getD 91 gD).2.1, (36, 105) :: (cL199.getD 91 gD).2.2) : gA) = (9, 53, [(36, 105), (35, 104), (34, 103), (33, 102), (32, 101), (29, 100), (28, 99), (27, 98), (26, 97), (25, 96), (24, 95), (23, 94), (22, 93), (5, 92)]) by decide +kernel]
  rfl
theorem cF610 : (gl cL200).1 = 106 := by decide +kernel
def cL201 : List gA := cL200 ++ [(10, 120, [])]
theorem cF611 : zgn (gl cL200) 10 120 = gl cL201 := gl_gn
theorem cF612 : zhn (hl cW37) 106 = hl cW37 := hl_n (by decide +kernel)
theorem cF613 : (gl cL201).2.1 91 = 9 := by decide +kernel
def cL202 : List gA := cL201.set 91 (9, 53, [(37, 106), (36, 105), (35, 104), (34, 103), (33, 102), (32, 101), (29, 100), (28, 99), (27, 98), (26, 97), (25, 96), (24, 95), (23, 94), (22, 93), (5, 92)])
theorem cF614 : zgu (gl cL201) 91 37 (some 106) = gl cL202 := by
  rw [gl_gu (by decide +kernel), show (((cL201.getD 91 gD).1, (cL201.getD 91 gD).2.1, (37, 106) :: (cL201.getD 91 gD).2.2) : gA) = (9, 53, [(37, 106), (36, 105), (35, 104), (34, 103), (33, 102), (32, 101), (29, 100), (28, 99), (27, 98), (26, 97), (25, 96), (24, 95), (23, 94), (22, 93), (5, 92)]) by decide +kernel]
  rfl
theorem cF615 : (gl cL202).1 = 107 := by decide +kernel
def cL203 : List gA := cL202 ++ [(10, 40, [])]
theorem cF616 : zgn (gl cL202) 10 40 = gl cL203 := gl_gn
theorem cF617 : zhn (hl cW37) 107 = hl cW37 := hl_n (by decide +kernel)
theorem cF618 : (gl cL203).2.1 91 = 9 := by decide +kernel
def cL204 : List gA := cL203.set 91 (9, 53, [(38, 107), (37, 106), (36, 105), (35, 104), (34, 103), (33, 102), (32, 101), (29, 100), (28, 99), (27, 98), (26, 97), (25, 96), (24, 95), (23, 94), (22, 93), (5, 92)])
theorem cF619 : zgu (gl cL203) 91 38 (some 107) = gl cL204 := by
  rw [gl_gu (by decide +kernel), show (((cL203.getD 91 gD).1, (cL203.getD 91 gD).2.1, (38, 107) :: (cL203.getD 91 gD).2.2) : gA) = (9, 53, [(38, 107), (37, 106), (36, 105), (35, 104), (34, 103), (33, 102), (32, 101), (29, 100), (28, 99), (27, 98), (26, 97), (25, 96), (24, 95), (23, 94), (22, 93), (5, 92)]) by decide +kernel]
  rfl
theorem cF620 : (gl cL204).1 = 108 := by decide +kernel
def cL205 : List gA := cL204 ++ [(10, 120, [])]
theorem cF621 : zgn (gl cL204) 10 120 = gl cL205 := gl_gn
theorem cF622 : zhn (hl cW37) 108 = hl cW37 := hl_n (by decide +kernel)
theorem cF623 : (gl cL205).2.1 91 = 9 := by decide +kernel
def cL206 : List gA := cL205.set 91 (9, 53, [(39, 108), (38, 107), (37, 106), (36, 105), (35, 104), (34, 103), (33, 102), (32, 101), (29, 100), (28, 99), (27, 98), (26, 97), (25, 96), (24, 95), (23, 94), (22, 93), (5, 92)])
theorem cF624 : zgu (gl cL205) 91 39 (some 108) = gl cL206 := by
  rw [gl_gu (by decide +kernel), show (((cL205.getD 91 gD).1, (cL205.getD 91 gD).2.1, (39, 108) :: (cL205.getD 91 gD).2.2) : gA) = (9, 53, [(39, 108), (38, 107), (37, 106), (36, 105), (35, 104), (34, 103), (33, 102), (32, 101), (29, 100), (28, 99), (27, 98), (26, 97), (25, 96), (24, 95), (23, 94), (22, 93), (5, 92)]) by decide +kernel]
  rfl
theorem cF625 : (gl cL206).1 = 109 := by decide +kernel
def cL207 : List gA := cL206 ++ [(10, 40, [])]
theorem cF626 : zgn (gl cL206) 10 40 = gl cL207 := gl_gn
theorem cF627 : zhn (hl cW37) 109 = hl cW37 := hl_n (by decide +kernel)
theorem cF628 : (gl cL207).2.1 91 = 9 := by decide +kernel
def cL208 : List gA := cL207.set 91 (9, 53, [(40, 109), (39, 108), (38, 107), (37, 106), (36, 105), (35, 104), (34, 103), (33, 102), (32, 101), (29, 100), (28, 99), (27, 98), (26, 97), (25, 96), (24, 95), (23, 94), (22, 93), (5, 92)])
theorem cF629 : zgu (gl cL207) 91 40 (some 109) = gl cL208 := by
  rw [gl_gu (by decide +kernel), show (((cL207.getD 91 gD).1, (cL207.getD 91 gD).2.1, (40, 109) :: (cL207.getD 91 gD).2.2) : gA) = (9, 53, [(40, 109), (39, 108), (38, 107), (37, 106), (36, 105), (35, 104), (34, 103), (33, 102), (32, 101), (29, 100), (28, 99), (27, 98), (26, 97), (25, 96), (24, 95), (23, 94), (22, 93), (5, 92)]) by decide +kernel]
  rfl
theorem cF630 : (gl cL208).1 = 110 := by decide +kernel
def cL209 : List gA := cL208 ++ [(10, 48, [])]
theorem cF631 : zgn (gl cL208) 10 48 = gl cL209 := gl_gn
theorem cF632 : zhn (hl cW37) 110 = hl cW37 := hl_n (by decide +kernel)
theorem cF633 : (gl cL209).2.1 91 = 9 := by decide +kernel
def cL210 : List gA := cL209.set 91 (9, 53, [(41, 110), (40, 109), (39, 108), (38, 107), (37, 106), (36, 105), (35, 104), (34, 103), (33, 102), (32, 101), (29, 100), (28, 99), (27, 98), (26, 97), (25, 96), (24, 95), (23, 94), (22, 93), (5, 92)])
theorem cF634 : zgu (gl cL209) 91 41 (some 110) = gl cL210 := by
  rw [gl_gu (by decide +kernel), show (((cL209.getD 91 gD).1, (cL209.getD 91 gD).2.1, (41, 110) :: (cL209.getD 91 gD).2.2) : gA) = (9, 53, [(41, 110), (40, 109), (39, 108), (38, 107), (37, 106), (36, 105), (35, 104), (34, 103), (33, 102), (32, 101), (29, 100), (28, 99), (27, 98), (26, 97), (25, 96), (24, 95), (23, 94), (22, 93), (5, 92)]) by decide +kernel]
  rfl
theorem cF635 : (gl cL210).1 = 111 := by decide +kernel
def cL211 : List gA := cL210 ++ [(11, 8748, [])]
theorem cF636 : zgn (gl cL210) 11 8748 = gl cL211 := gl_gn
theorem cF637 : zhn (hl cW37) 111 = hl cW37 := hl_n (by decide +kernel)
theorem cF638 : (gl cL211).2.1 91 = 9 := by decide +kernel
def cL212 : List gA := cL211.set 91 (9, 53, [(42, 111), (41, 110), (40, 109), (39, 108), (38, 107), (37, 106), (36, 105), (35, 104), (34, 103), (33, 102), (32, 101), (29, 100), (28, 99), (27, 98), (26, 97), (25, 96), (24, 95), (23, 94), (22, 93), (5, 92)])
theorem cF639 : zgu (gl cL211) 91 42 (some 111) = gl cL212 := by
  rw [gl_gu (by decide +kernel), show (((cL211.getD 91 gD).1, (cL211.getD 91 gD).2.1, (42, 111) :: (cL211.getD 91 gD).2.2) : gA) = (9, 53, [(42, 111), (41, 110), (40, 109), (39, 108), (38, 107), (37, 106), (36, 105), (35, 104), (34, 103), (33, 102), (32, 101), (29, 100), (28, 99), (27, 98), (26, 97), (25, 96), (24, 95), (23, 94), (22, 93), (5, 92)]) by decide +kernel]
  rfl
theorem cF640 : (gl cL212).1 = 112 := by decide +kernel
def cL213 : List gA := cL212 ++ [(10, 3, [])]
theorem cF641 : zgn (gl cL212) 10 3 = gl cL213 := gl_gn
theorem cF642 : zhn (hl cW37) 112 = hl cW37 := hl_n (by decide +kernel)
theorem cF643 : (gl cL213).2.1 91 = 9 := by decide +kernel
def cL214 : List gA := cL213.set 91 (9, 53, [(44, 112), (42, 111), (41, 110), (40, 109), (39, 108), (38, 107), (37, 106), (36, 105), (35, 104), (34, 103), (33, 102), (32, 101), (29, 100), (28, 99), (27, 98), (26, 97), (25, 96), (24, 95), (23, 94), (22, 93), (5, 92)])
theorem cF644 : zgu (gl cL213) 91 44 (some 112) = gl cL214 := by
  rw [gl_gu (by decide +kernel), show (((cL213.getD 91 gD).1, (cL213.getD 91 gD).2.1, (44, 112) :: (cL213.getD 91 gD).2.2) : gA) = (9, 53, [(44, 112), (42, 111), (41, 110), (40, 109), (39, 108), (38, 107), (37, 106), (36, 105), (35, 104), (34, 103), (33, 102), (32, 101), (29, 100), (28, 99), (27, 98), (26, 97), (25, 96), (24, 95), (23, 94), (22, 93), (5, 92)]) by decide +kernel]
  rfl
theorem cF645 : (gl cL214).1 = 113 := by decide +kernel
def cL215 : List gA := cL214 ++ [(10, 3, [])]
theorem cF646 : zgn (gl cL214) 10 3 = gl cL215 := gl_gn
theorem cF647 : zhn (hl cW37) 113 = hl cW37 := hl_n (by decide +kernel)
theorem cF648 : (gl cL215).2.1 91 = 9 := by decide +kernel
def cL216 : List gA := cL215.set 91 (9, 53, [(45, 113), (44, 112), (42, 111), (41, 110), (40, 109), (39, 108), (38, 107), (37, 106), (36, 105), (35, 104), (34, 103), (33, 102), (32, 101), (29, 100), (28, 99), (27, 98), (26, 97), (25, 96), (24, 95), (23, 94), (22, 93), (5, 92)])
theorem cF649 : zgu (gl cL215) 91 45 (some 113) = gl cL216 := by
  rw [gl_gu (by decide +kernel), show (((cL215.getD 91 gD).1, (cL215.getD 91 gD).2.1, (45, 113) :: (cL215.getD 91 gD).2.2) : gA) = (9, 53, [(45, 113), (44, 112), (42, 111), (41, 110), (40, 109), (39, 108), (38, 107), (37, 106), (36, 105), (35, 104), (34, 103), (33, 102), (32, 101), (29, 100), (28, 99), (27, 98), (26, 97), (25, 96), (24, 95), (23, 94), (22, 93), (5, 92)]) by decide +kernel]
  rfl
theorem cF650 : (gl cL216).1 = 114 := by decide +kernel
def cL217 : List gA := cL216 ++ [(10, 3, [])]
theorem cF651 : zgn (gl cL216) 10 3 = gl cL217 := gl_gn
theorem cF652 : zhn (hl cW37) 114 = hl cW37 := hl_n (by decide +kernel)
theorem cF653 : (gl cL217).2.1 91 = 9 := by decide +kernel
def cL218 : List gA := cL217.set 91 (9, 53, [(46, 114), (45, 113), (44, 112), (42, 111), (41, 110), (40, 109), (39, 108), (38, 107), (37, 106), (36, 105), (35, 104), (34, 103), (33, 102), (32, 101), (29, 100), (28, 99), (27, 98), (26, 97), (25, 96), (24, 95), (23, 94), (22, 93), (5, 92)])
theorem cF654 : zgu (gl cL217) 91 46 (some 114) = gl cL218 := by
  rw [gl_gu (by decide +kernel), show (((cL217.getD 91 gD).1, (cL217.getD 91 gD).2.1, (46, 114) :: (cL217.getD 91 gD).2.2) : gA) = (9, 53, [(46, 114), (45, 113), (44, 112), (42, 111), (41, 110), (40, 109), (39, 108), (38, 107), (37, 106), (36, 105), (35, 104), (34, 103), (33, 102), (32, 101), (29, 100), (28, 99), (27, 98), (26, 97), (25, 96), (24, 95), (23, 94), (22, 93), (5, 92)]) by decide +kernel]
  rfl
theorem cF655 : (gl cL218).1 = 115 := by decide +kernel
def cL219 : List gA := cL218 ++ [(10, 3, [])]
theorem cF656 : zgn (gl cL218) 10 3 = gl cL219 := gl_gn
theorem cF657 : zhn (hl cW37) 115 = hl cW37 := hl_n (by decide +kernel)
theorem cF658 : (gl cL219).2.1 91 = 9 := by decide +kernel
def cL220 : List gA := cL219.set 91 (9, 53, [(48, 115), (46, 114), (45, 113), (44, 112), (42, 111), (41, 110), (40, 109), (39, 108), (38, 107), (37, 106), (36, 105), (35, 104), (34, 103), (33, 102), (32, 101), (29, 100), (28, 99), (27, 98), (26, 97), (25, 96), (24, 95), (23, 94), (22, 93), (5, 92)])
theorem cF659 : zgu (gl cL219) 91 48 (some 115) = gl cL220 := by
  rw [gl_gu (by decide +kernel), show (((cL219.getD 91 gD).1, (cL219.getD 91 gD).2.1, (48, 115) :: (cL219.getD 91 gD).2.2) : gA) = (9, 53, [(48, 115), (46, 114), (45, 113), (44, 112), (42, 111), (41, 110), (40, 109), (39, 108), (38, 107), (37, 106), (36, 105), (35, 104), (34, 103), (33, 102), (32, 101), (29, 100), (28, 99), (27, 98), (26, 97), (25, 96), (24, 95), (23, 94), (22, 93), (5, 92)]) by decide +kernel]
  rfl
theorem cF660 : (gl cL220).1 = 116 := by decide +kernel
def cL221 : List gA := cL220 ++ [(10, 3, [])]
theorem cF661 : zgn (gl cL220) 10 3 = gl cL221 := gl_gn
theorem cF662 : zhn (hl cW37) 116 = hl cW37 := hl_n (by decide +kernel)
theorem cF663 : (gl cL221).2.1 91 = 9 := by decide +kernel
def cL222 : List gA := cL221.set 91 (9, 53, [(49, 116), (48, 115), (46, 114), (45, 113), (44, 112), (42, 111), (41, 110), (40, 109), (39, 108), (38, 107), (37, 106), (36, 105), (35, 104), (34, 103), (33, 102), (32, 101), (29, 100), (28, 99), (27, 98), (26, 97), (25, 96), (24, 95), (23, 94), (22, 93), (5, 92)])
theorem cF664 : zgu (gl cL221) 91 49 (some 116) = gl cL222 := by
  rw [gl_gu (by decide +kernel), show (((cL221.getD 91 gD).1, (cL221.getD 91 gD).2.1, (49, 116) :: (cL221.getD 91 gD).2.2) : gA) = (9, 53, [(49, 116), (48, 115), (46, 114), (45, 113), (44, 112), (42, 111), (41, 110), (40, 109), (39, 108), (38, 107), (37, 106), (36, 105), (35, 104), (34, 103), (33, 102), (32, 101), (29, 100), (28, 99), (27, 98), (26, 97), (25, 96), (24, 95), (23, 94), (22, 93), (5, 92)]) by decide +kernel]
  rfl
theorem cF665 : (gl cL222).1 = 117 := by decide +kernel
def cL223 : List gA := cL222 ++ [(11, 3, [])]
theorem cF666 : zgn (gl cL222) 11 3 = gl cL223 := gl_gn
theorem cF667 : zhn (hl cW37) 117 = hl cW37 := hl_n (by decide +kernel)
theorem cF668 : (gl cL223).2.1 91 = 9 := by decide +kernel
def cL224 : List gA := cL223.set 91 (9, 53, [(50, 117), (49, 116), (48, 115), (46, 114), (45, 113), (44, 112), (42, 111), (41, 110), (40, 109), (39, 108), (38, 107), (37, 106), (36, 105), (35, 104), (34, 103), (33, 102), (32, 101), (29, 100), (28, 99), (27, 98), (26, 97), (25, 96), (24, 95), (23, 94), (22, 93), (5, 92)])
theorem cF669 : zgu (gl cL223) 91 50 (some 117) = gl cL224 := by
  rw [gl_gu (by decide +kernel), show (((cL223.getD 91 gD).1, (cL223.getD 91 gD).2.1, (50, 117) :: (cL223.getD 91 gD).2.2) : gA) = (9, 53, [(50, 117), (49, 116), (48, 115), (46, 114), (45, 113), (44, 112), (42, 111), (41, 110), (40, 109), (39, 108), (38, 107), (37, 106), (36, 105), (35, 104), (34, 103), (33, 102), (32, 101), (29, 100), (28, 99), (27, 98), (26, 97), (25, 96), (24, 95), (23, 94), (22, 93), (5, 92)]) by decide +kernel]
  rfl
theorem cF670 : (gl cL224).1 = 118 := by decide +kernel
def cL225 : List gA := cL224 ++ [(11, 4, [])]
theorem cF671 : zgn (gl cL224) 11 4 = gl cL225 := gl_gn
theorem cF672 : zhn (hl cW37) 118 = hl cW37 := hl_n (by decide +kernel)
theorem cF673 : (gl cL225).2.1 91 = 9 := by decide +kernel
def cL226 : List gA := cL225.set 91 (9, 53, [(51, 118), (50, 117), (49, 116), (48, 115), (46, 114), (45, 113), (44, 112), (42, 111), (41, 110), (40, 109), (39, 108), (38, 107), (37, 106), (36, 105), (35, 104), (34, 103), (33, 102), (32, 101), (29, 100), (28, 99), (27, 98), (26, 97), (25, 96), (24, 95), (23, 94), (22, 93), (5, 92)])
theorem cF674 : zgu (gl cL225) 91 51 (some 118) = gl cL226 := by
  rw [gl_gu (by decide +kernel), show (((cL225.getD 91 gD).1, (cL225.getD 91 gD).2.1, (51, 118) :: (cL225.getD 91 gD).2.2) : gA) = (9, 53, [(51, 118), (50, 117), (49, 116), (48, 115), (46, 114), (45, 113), (44, 112), (42, 111), (41, 110), (40, 109), (39, 108), (38, 107), (37, 106), (36, 105), (35, 104), (34, 103), (33, 102), (32, 101), (29, 100), (28, 99), (27, 98), (26, 97), (25, 96), (24, 95), (23, 94), (22, 93), (5, 92)]) by decide +kernel]
  rfl
theorem cF675 : (gl cL226).1 = 119 := by decide +kernel
def cL227 : List gA := cL226 ++ [(11, 4, [])]
theorem cF676 : zgn (gl cL226) 11 4 = gl cL227 := gl_gn
theorem cF677 : zhn (hl cW37) 119 = hl cW37 := hl_n (by decide +kernel)
theorem cF678 : (gl cL227).2.1 91 = 9 := by decide +kernel
def cL228 : List gA := cL227.set 91 (9, 53, [(52, 119), (51, 118), (50, 117), (49, 116), (48, 115), (46, 114), (45, 113), (44, 112), (42, 111), (41, 110), (40, 109), (39, 108), (38, 107), (37, 106), (36, 105), (35, 104), (34, 103), (33, 102), (32, 101), (29, 100), (28, 99), (27, 98), (26, 97), (25, 96), (24, 95), (23, 94), (22, 93), (5, 92)])
theorem cF679 : zgu (gl cL227) 91 52 (some 119) = gl cL228 := by
  rw [gl_gu (by decide +kernel), show (((cL227.getD 91 gD).1, (cL227.getD 91 gD).2.1, (52, 119) :: (cL227.getD 91 gD).2.2) : gA) = (9, 53, [(52, 119), (51, 118), (50, 117), (49, 116), (48, 115), (46, 114), (45, 113), (44, 112), (42, 111), (41, 110), (40, 109), (39, 108), (38, 107), (37, 106), (36, 105), (35, 104), (34, 103), (33, 102), (32, 101), (29, 100), (28, 99), (27, 98), (26, 97), (25, 96), (24, 95), (23, 94), (22, 93), (5, 92)]) by decide +kernel]
  rfl
theorem cK13 {d : Nat} {Q : zQ} : zRunD ztb zmt' (d + 1) 112 [zR (some 91)] (gl cL172) (hl cW36) Q ↔ Q none (gl cL228) (hl cW37) := by
  rw [r112]
  simp only [e112_0, e112_1, e112_4, e112_5, e112_6, e112_9, e112_10, e112_13, e112_15, e112_18, e112_19, e112_20, e112_22, e112_25, e112_26, e112_27, e112_29, e112_32, e112_33, e112_34, e112_36, e112_39, e112_40, e112_41, e112_43, e112_46, e112_47, e112_48, e112_50, e112_53, e112_54, e112_55, e112_57, e112_60, e112_61, e112_63, e112_65, e112_68, e112_69, e112_70, e112_72, e112_75, e112_76, e112_78, e112_80, e112_83, e112_84, e112_85, e112_87, e112_90, e112_91, e112_92, e112_94, e112_97, e112_98, e112_101, e112_103, e112_106, e112_107, e112_109, e112_111, e112_114, e112_115, e112_117, e112_119, e112_122, e112_123, e112_125, e112_127, e112_130, e112_131, e112_133, e112_135, e112_138, e112_139, e112_141, e112_143, e112_146, e112_147, e112_149, e112_151, e112_154, e112_155, e112_158, e112_160, e112_163, e112_164, e112_165, e112_167, e112_170, e112_171, e112_172, e112_174, e112_177, e112_178, e112_179, e112_181, e112_184, e112_185, e112_186, e112_188, e112_191, e112_192, e112_193, e112_195, e112_198, e112_199, e112_200, e112_202, e112_205, e112_206, e112_207, e112_209, e112_212, e112_213, e112_214, e112_216, e112_219, zs0, zsI, zsL, zsR, ztl1, ztl0, zc0, zcI, zcL, zcR, true_and, and_true, true_implies, false_implies, implies_true, not_true_eq_false, not_false_eq_true, and_self, Int.toNat_natCast, Nat.reduceAdd, Nat.reduceLeDiff, Nat.reduceLT, forall_eq', Option.some.injEq, zarR, zarI, zarL, zle, zq0, zq1, zq2, zq3, zq4, zq5, zq6, zq8, zq9, zq10, zq20, zq7, zq12, zq24, zq40, zq41, zq48, zq100, zq120, zq123, zq480, zq492, zq700, zq729, zq2187, zq2916, zq8748, ne_eq, Int.reduceEq, Int.reduceLT, Int.reduceLE, Int.reduceToNat, Int.reduceMul, Int.reduceAdd, Int.reduceNeg, Nat.reduceMul, or_true, true_or, cF538, cF539, cF540, cF541, cF542, cF543, cF544, cF545, cF546, cF547, cF548, cF549, cF550, cF551, cF552, cF553, cF554, cF555, cF556, cF557, cF558, cF559, cF560, cF561, cF562, cF563, cF564, cF565, cF566, cF567, cF568, cF569, cF570, cF571, cF572, cF573, cF574, cF575, cF576, cF577, cF578, cF579, cF580, cF581, cF582, cF583, cF584, cF585, cF586, cF587, cF588, cF589, cF590, cF591, cF592, cF593, cF594, cF595, cF596, cF597, cF598, cF599, cF600, cF601, cF602, cF603, cF604, cF605, cF606, cF607, cF608, cF609, cF610, cF611, cF612, cF613, cF614, cF615, cF616, cF617, cF618, cF619, cF620, cF621, cF622, cF623, cF624, cF625, cF626, cF627, cF628, cF629, cF630, cF631, cF632, cF633, cF634, cF635, cF636, cF637, cF638, cF639, cF640, cF641, cF642, cF643, cF644, cF645, cF646, cF647, cF648, cF649, cF650, cF651, cF652, cF653, cF654, cF655, cF656, cF657, cF658, cF659, cF660, cF661, cF662, cF663, cF664, cF665, cF666, cF667, cF668, cF669, cF670, cF671, cF672, cF673, cF674, cF675, cF676, cF677, cF678, cF679]
theorem cF680 : (gl cL228).1 = 120 := by decide +kernel
def cL229 : List gA := cL228 ++ [(11, 1, [])]
theorem cF681 : zgn (gl cL228) 11 1 = gl cL229 := gl_gn
theorem cF682 : zhn (hl cW37) 120 = hl cW37 := hl_n (by decide +kernel)
theorem cG : gS (gl cL229) := ⟨by decide +kernel, by decide +kernel, by decide +kernel, by decide +kernel⟩
theorem cI : INV (gl cL229) (hl cW37) := by
  refine ⟨cG, ⟨0, by decide +kernel, by decide +kernel, by decide, fun i hi => by omega⟩, ⟨by decide +kernel, by decide +kernel, by decide +kernel⟩, Or.inl ⟨by decide +kernel, by decide +kernel, by decide +kernel, by decide +kernel, by decide +kernel, by decide +kernel, by decide +kernel, by decide +kernel, by decide +kernel, by decide +kernel⟩⟩
