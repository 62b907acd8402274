/-! HOW A STATE OF THE PURE MACHINE STANDS IN A HEAP: the cell of number k is the k-th of a world's list ws -/
def zadr (ws : va_W) (i : Nat) : Nat := match ws[i]? with
  | some q => q.1
  | none => 0
def zfc : FieldType → Nat
  | .int => 0
  | .long => 1
  | .boolean => 3
  | .object _ => 2
  | .array _ => 2
  | _ => 9
def zext (ws ws' : va_W) : Prop := ws.length ≤ ws'.length ∧ ∀ i, i < ws.length → zadr ws' i = zadr ws i
def zok (ws : va_W) (r : Option Nat) : Prop := ∀ q, r = some q → q < ws.length
def zfr (ws : va_W) (t : Nat) (r : Option Nat) (z : Int) (v : Value) : Prop :=
  if t = 2 then v = va_rf (r.map (zadr ws)) ∧ zok ws r
  else if t = 1 then ∃ c : Int64, v = .long c ∧ c.toInt = z
  else ∃ c : Int32, v = .int c ∧ c.toInt = z
section ZR
variable (cl : List vw_C) (fty : Nat → Nat → FieldType) (cA : Nat → ClassId)
def zce (ws : va_W) (kd n : Nat) (g : Nat → Option Nat) (h : Nat → Int) (e : va_E) : Prop :=
  (kd < 10 ∧ ∃ (fs : List Value) (C : String) (T : u_T), e = .inr (kd, fs) ∧ cl[kd]? = some (C, T, n) ∧ fs.length = n ∧ ∀ j v, fs[j]? = some v → zfr ws (zfc (fty kd j)) (g j) (h j) v)
  ∨ ((kd = 10 ∨ kd = 12 ∨ kd = 13) ∧ ∃ f : Nat → Int32, e = .inl (cA kd, n, .inl f) ∧ ∀ j, j < n → (f j).toInt = h j)
  ∨ (kd = 11 ∧ ∃ f : Nat → Int64, e = .inl (cA kd, n, .inr (.inl f)) ∧ ∀ j, j < n → (f j).toInt = h j)
  ∨ ((kd = 14 ∨ kd = 15) ∧ ∃ f : Nat → Option Nat, e = .inl (cA kd, n, .inr (.inr (.inr (.inr f)))) ∧ ∀ j, j < n → f j = (g j).map (zadr ws) ∧ zok ws (g j))
def zRel (G : zG) (h : zM) (ws : va_W) : Prop := ws.length = G.1 ∧ (∀ k q, ws[k]? = some q → zce cl fty cA ws (G.2.1 k) (G.2.2.1 k) (G.2.2.2 k) (h k) q.2) ∧ ∀ k, G.1 ≤ k → G.2.1 k = 99
end ZR
def zvr (adK : Nat → Nat) (sa : Nat) (ws : va_W) (v : zV) (cv : Value) : Prop := match v with
  | .inl z => ∃ c : Int32, cv = .int c ∧ c.toInt = z
  | .inr (.inl z) => ∃ c : Int64, cv = .long c ∧ c.toInt = z
  | .inr (.inr (.inl r)) => cv = va_rf (r.map (zadr ws)) ∧ zok ws r
  | .inr (.inr (.inr s)) => ∃ q, cv = .ref q ∧ (s < 16 → q = adK s) ∧ (s = 1000 → q = sa)
def zsr (adK : Nat → Nat) (sa : Nat) (ws : va_W) : List zV → List Value → Prop
  | [], [] => True
  | v :: st, cv :: cs => zvr adK sa ws v cv ∧ zsr adK sa ws st cs
  | _, _ => False
def zlr (adK : Nat → Nat) (sa : Nat) (ws : va_W) (lo : zLo) (ls : Array Slot) : Prop := ls.size = lo.length ∧ lv_wf ls ∧ ∀ (i : Nat) (v : zV), lo[i]? = some (some v) → ∃ cv : Value, ls[i]? = some (Slot.val cv) ∧ zvr adK sa ws v cv
def zor' (adK : Nat → Nat) (sa : Nat) (ws : va_W) (v : Option zV) (cv : Option Value) : Prop := zsr adK sa ws v.toList cv.toList

theorem zext.rf {ws : va_W} : zext ws ws := ⟨Nat.le_refl _, fun _ _ => rfl⟩
theorem zext.tr {a b c : va_W} (h1 : zext a b) (h2 : zext b c) : zext a c := ⟨Nat.le_trans h1.1 h2.1, fun i hi => (h2.2 i (Nat.lt_of_lt_of_le hi h1.1)).trans (h1.2 i hi)⟩
theorem zok.ext {ws ws' : va_W} (h : zext ws ws') {r : Option Nat} (hr : zok ws r) : zok ws' r := fun q hq => Nat.lt_of_lt_of_le (hr q hq) h.1
theorem zmap.ext {ws ws' : va_W} (h : zext ws ws') {r : Option Nat} (hr : zok ws r) : r.map (zadr ws') = r.map (zadr ws) := by
  cases r with
  | none => rfl
  | some q => exact congrArg some (h.2 q (hr q rfl))
theorem zvr.ext {adK : Nat → Nat} {sa : Nat} {ws ws' : va_W} (h : zext ws ws') {v : zV} {cv : Value} (hv : zvr adK sa ws v cv) : zvr adK sa ws' v cv := by
  rcases v with z | z | r | s
  · exact hv
  · exact hv
  · exact ⟨by rw [zmap.ext h hv.2]; exact hv.1, hv.2.ext h⟩
  · exact hv
theorem zsr.ext {adK : Nat → Nat} {sa : Nat} {ws ws' : va_W} (h : zext ws ws') : ∀ {st : List zV} {cs : List Value}, zsr adK sa ws st cs → zsr adK sa ws' st cs
  | [], [], _ => trivial
  | _ :: _, _ :: _, hv => ⟨hv.1.ext h, zsr.ext h hv.2⟩
  | [], _ :: _, hv => hv.elim
  | _ :: _, [], hv => hv.elim
theorem zlr.ext {adK : Nat → Nat} {sa : Nat} {ws ws' : va_W} (h : zext ws ws') {lo : zLo} {ls : Array Slot} (hl : zlr adK sa ws lo ls) : zlr adK sa ws' lo ls :=
  ⟨hl.1, hl.2.1, fun i v hi => (hl.2.2 i v hi).imp fun _ x => ⟨x.1, x.2.ext h⟩⟩
theorem zfr.ext {ws ws' : va_W} (h : zext ws ws') {t : Nat} {r : Option Nat} {z : Int} {v : Value} (hf : zfr ws t r z v) : zfr ws' t r z v := by
  unfold zfr at hf ⊢
  split at hf
  · rename_i e
    rw [if_pos e]
    exact ⟨by rw [zmap.ext h hf.2]; exact hf.1, hf.2.ext h⟩
  · rename_i e
    rw [if_neg e]
    exact hf
theorem zce.ext {cl : List vw_C} {fty : Nat → Nat → FieldType} {cA : Nat → ClassId} {ws ws' : va_W} (h : zext ws ws') {kd n : Nat} {g : Nat → Option Nat} {hh : Nat → Int} {e : va_E} (hc : zce cl fty cA ws kd n g hh e) : zce cl fty cA ws' kd n g hh e := by
  rcases hc with ⟨k0, fs, C, T, e1, e2, e3, e4⟩ | hc | hc | ⟨k0, f, e1, e2⟩
  · exact Or.inl ⟨k0, fs, C, T, e1, e2, e3, fun j v hj => (e4 j v hj).ext h⟩
  · exact Or.inr (Or.inl hc)
  · exact Or.inr (Or.inr (Or.inl hc))
  · exact Or.inr (Or.inr (Or.inr ⟨k0, f, e1, fun j hj => ⟨(e2 j hj).1.trans (zmap.ext h (e2 j hj).2).symm, (e2 j hj).2.ext h⟩⟩))
theorem zce.cong {cl : List vw_C} {fty : Nat → Nat → FieldType} {cA : Nat → ClassId} {ws : va_W} {kd n : Nat} {g g' : Nat → Option Nat} {hh hh' : Nat → Int} {e : va_E} (hg : ∀ j, g' j = g j) (hq : ∀ j, hh' j = hh j) (hc : zce cl fty cA ws kd n g hh e) : zce cl fty cA ws kd n g' hh' e := by
  rw [show g' = g from funext hg, show hh' = hh from funext hq]
  exact hc
theorem zadr_set {ws : va_W} {k a : Nat} {e e' : va_E} (hk : ws[k]? = some (a, e)) : zext ws (ws.set k (a, e')) := by
  refine ⟨by rw [List.length_set]; exact Nat.le_refl _, fun i hi => ?_⟩
  unfold zadr
  by_cases h : k = i
  · subst h
    rw [List.getElem?_set_self hi, hk]
  · rw [List.getElem?_set_ne h]
theorem zadr_app {ws : va_W} {w : va_W} : zext ws (ws ++ w) := by
  refine ⟨by rw [List.length_append]; exact Nat.le_add_right _ _, fun i hi => ?_⟩
  unfold zadr
  rw [List.getElem?_append_left hi]
theorem zadr_at {ws : va_W} {k : Nat} (h : k < ws.length) : ∃ e, ws[k]? = some (zadr ws k, e) := by
  obtain ⟨q, hq⟩ : ∃ q, ws[k]? = some q := ⟨ws[k], List.getElem?_eq_getElem h⟩
  exact ⟨q.2, by unfold zadr; rw [hq]⟩
theorem zadr_of {ws : va_W} {k a : Nat} {e : va_E} (h : ws[k]? = some (a, e)) : zadr ws k = a := by
  unfold zadr
  rw [h]
/-- a cell's numbers and references change -/
theorem zRel.set {cl : List vw_C} {fty : Nat → Nat → FieldType} {cA : Nat → ClassId} {G G' : zG} {h h' : zM} {ws : va_W} (hr : zRel cl fty cA G h ws) {k a : Nat} {e e' : va_E} (hk : ws[k]? = some (a, e)) (h1 : G'.1 = G.1) (h2 : G'.2.1 = G.2.1) (h3 : G'.2.2.1 = G.2.2.1)
    (hg : ∀ c, c ≠ k → ∀ i, G'.2.2.2 c i = G.2.2.2 c i) (hh : ∀ c, c ≠ k → ∀ i, h' c i = h c i) (he : zce cl fty cA (ws.set k (a, e')) (G.2.1 k) (G.2.2.1 k) (G'.2.2.2 k) (h' k) e') : zRel cl fty cA G' h' (ws.set k (a, e')) := by
  refine ⟨by rw [List.length_set, h1]; exact hr.1, fun c q hq => ?_, fun c hc => by rw [h2]; exact hr.2.2 c (by rw [← h1]; exact hc)⟩
  rw [h2, h3]
  by_cases hc : k = c
  · subst hc
    rw [List.getElem?_set_self (List.getElem?_eq_some_iff.mp hk).1] at hq
    cases hq
    exact he
  · rw [List.getElem?_set_ne hc] at hq
    exact ((hr.2.1 c q hq).ext (zadr_set hk)).cong (hg c (Ne.symm hc)) (hh c (Ne.symm hc))
theorem zRel.at {cl : List vw_C} {fty : Nat → Nat → FieldType} {cA : Nat → ClassId} {G : zG} {h : zM} {ws : va_W} (hr : zRel cl fty cA G h ws) {k : Nat} (hk : G.2.1 k ≠ 99) : ∃ e, ws[k]? = some (zadr ws k, e) ∧ zce cl fty cA ws (G.2.1 k) (G.2.2.1 k) (G.2.2.2 k) (h k) e := by
  have hl : k < ws.length := by
    rcases Nat.lt_or_ge k ws.length with q | q
    · exact q
    · exact absurd (hr.2.2 k (by rw [← hr.1]; exact q)) hk
  obtain ⟨e, he⟩ := zadr_at hl
  exact ⟨e, he, hr.2.1 k _ he⟩
theorem zRel.push {cl : List vw_C} {fty : Nat → Nat → FieldType} {cA : Nat → ClassId} {G : zG} {h : zM} {ws : va_W} (hr : zRel cl fty cA G h ws) {q kd n : Nat} {e : va_E} (he : zce cl fty cA (ws ++ [(q, e)]) kd n (fun _ => none) (fun _ => 0) e) : zRel cl fty cA (zgn G kd n) (zhn h G.1) (ws ++ [(q, e)]) := by
  refine ⟨by rw [List.length_append]; show ws.length + 1 = G.1 + 1; rw [hr.1], fun c x hx => ?_, fun c hc => ?_⟩
  · by_cases hc : c = G.1
    · subst hc
      rw [← hr.1, List.getElem?_append_right (Nat.le_refl _), Nat.sub_self] at hx
      cases hx
      refine zce.cong (g := fun _ => none) (hh := fun _ => 0) (fun j => ?_) (fun j => ?_) ?_
      · show (if G.1 = G.1 then none else _) = none
        rw [if_pos rfl]
      · show (if G.1 = G.1 then 0 else _) = 0
        rw [if_pos rfl]
      · show zce cl fty cA _ (if G.1 = G.1 then kd else _) (if G.1 = G.1 then n else _) _ _ _
        rw [if_pos rfl, if_pos rfl]
        exact he
    · have hl : c < ws.length := by
        have := (List.getElem?_eq_some_iff.mp hx).1
        rw [List.length_append] at this
        have h1 := hr.1
        simp at this
        omega
      rw [List.getElem?_append_left hl] at hx
      refine zce.cong (g := G.2.2.2 c) (hh := h c) (fun j => ?_) (fun j => ?_) ?_
      · show (if c = G.1 then none else _) = _
        rw [if_neg hc]
      · show (if c = G.1 then 0 else _) = _
        rw [if_neg hc]
      · show zce cl fty cA _ (if c = G.1 then kd else _) (if c = G.1 then n else _) _ _ _
        rw [if_neg hc, if_neg hc]
        exact (hr.2.1 c x hx).ext zadr_app
  · have h1 : G.1 + 1 ≤ c := hc
    show (if c = G.1 then kd else G.2.1 c) = 99
    rw [if_neg (by omega)]
    exact hr.2.2 c (by omega)
/-- the whole list of what the locals hold -/
def zfull (ls : Array Slot) : List (Nat × Value) := (List.range ls.size).filterMap (fun (j : Nat) => match ls[j]? with
  | some (Slot.val v) => some (j, v)
  | _ => none)
theorem zfull_mem {ls : Array Slot} {j : Nat} {v : Value} : (j, v) ∈ zfull ls ↔ ls[j]? = some (Slot.val v) := by
  unfold zfull
  rw [List.mem_filterMap]
  constructor
  · rintro ⟨i, -, hi⟩
    split at hi
    · rename_i w hw
      cases hi
      exact hw
    · cases hi
  · intro h
    refine ⟨j, List.mem_range.mpr (Array.getElem?_eq_some_iff.mp h).1, ?_⟩
    rw [h]
theorem zlr.has {adK : Nat → Nat} {sa : Nat} {ws : va_W} {lo : zLo} {ls : Array Slot} (h : zlr adK sa ws lo ls) : lv_has ls lo.length (zfull ls) := ⟨h.1, h.2.1, fun q hq => zfull_mem.mp hq⟩
theorem zst1_len : ∀ (lo : zLo) (i : Nat) (v : zV), (zst1 lo i v).length = lo.length
  | [], _, _ => by simp [zst1]
  | _ :: t, 0, v => by simp [zst1]
  | x :: t, 1, v => by simp [zst1, zst1_len t 0 v]
  | x :: t, n + 2, v => by simp [zst1, zst1_len t (n + 1) v]
theorem zst2_len : ∀ (lo : zLo) (i : Nat) (v : zV), (zst2 lo i v).length = lo.length
  | [], _, _ => by simp [zst2]
  | _ :: t, 0, v => by simp [zst2]
  | x :: t, 1, v => by simp [zst2, zst2_len t 0 v]
  | x :: t, n + 2, v => by simp [zst2, zst2_len t (n + 1) v]
theorem zclr_some {x : Option zV} {w : zV} (h : zclr x = some w) : x = some w ∧ zcat w = 1 := by
  rcases x with _ | (z | z | r)
  · cases h
  · cases h; exact ⟨rfl, rfl⟩
  · cases h
  · cases h; exact ⟨rfl, rfl⟩
theorem zst1_at : ∀ {lo : zLo} {i : Nat} {v : zV} {j : Nat} {w : zV}, (zst1 lo i v)[j]? = some (some w) → (j = i ∧ w = v) ∨ (j ≠ i ∧ lo[j]? = some (some w) ∧ ¬ (j + 1 = i ∧ zcat w = 2))
  | [], _, _, _, _, h => by simp [zst1] at h
  | _ :: t, 0, v, 0, w, h => by simp [zst1] at h; exact Or.inl ⟨rfl, h.symm⟩
  | _ :: t, 0, v, j + 1, w, h => by simp [zst1] at h; exact Or.inr ⟨by omega, by simpa using h, by omega⟩
  | x :: t, 1, v, 0, w, h => by
    simp [zst1] at h
    obtain ⟨h1, h2⟩ := zclr_some h
    exact Or.inr ⟨by omega, by simp [h1], by omega⟩
  | x :: t, 1, v, j + 1, w, h => by
    simp [zst1] at h
    rcases zst1_at h with ⟨h1, h2⟩ | ⟨h1, h2, h3⟩
    · exact Or.inl ⟨by omega, h2⟩
    · exact Or.inr ⟨by omega, by simpa using h2, by omega⟩
  | x :: t, n + 2, v, 0, w, h => by
    simp [zst1] at h
    exact Or.inr ⟨by omega, by simp [h], by omega⟩
  | x :: t, n + 2, v, j + 1, w, h => by
    simp [zst1] at h
    rcases zst1_at h with ⟨h1, h2⟩ | ⟨h1, h2, h3⟩
    · exact Or.inl ⟨by omega, h2⟩
    · exact Or.inr ⟨by omega, by simpa using h2, by omega⟩
theorem zst2_at : ∀ {lo : zLo} {i : Nat} {v : zV} {j : Nat} {w : zV}, (zst2 lo i v)[j]? = some (some w) → (j = i ∧ w = v) ∨ (j ≠ i ∧ j ≠ i + 1 ∧ lo[j]? = some (some w) ∧ ¬ (j + 1 = i ∧ zcat w = 2))
  | [], _, _, _, _, h => by simp [zst2] at h
  | _ :: t, 0, v, 0, w, h => by simp [zst2] at h; exact Or.inl ⟨rfl, h.symm⟩
  | _ :: t, 0, v, 1, w, h => by
    simp [zst2] at h
    rcases t with _ | ⟨y, t⟩
    · simp at h
    · simp at h
  | _ :: t, 0, v, j + 2, w, h => by
    simp [zst2] at h
    exact Or.inr ⟨by omega, by omega, by simpa using h, by omega⟩
  | x :: t, 1, v, 0, w, h => by
    simp [zst2] at h
    obtain ⟨h1, h2⟩ := zclr_some h
    exact Or.inr ⟨by omega, by omega, by simp [h1], by omega⟩
  | x :: t, 1, v, j + 1, w, h => by
    simp [zst2] at h
    rcases zst2_at h with ⟨h1, h2⟩ | ⟨h1, h2, h3, h4⟩
    · exact Or.inl ⟨by omega, h2⟩
    · exact Or.inr ⟨by omega, by omega, by simpa using h3, by omega⟩
  | x :: t, n + 2, v, 0, w, h => by
    simp [zst2] at h
    exact Or.inr ⟨by omega, by omega, by simp [h], by omega⟩
  | x :: t, n + 2, v, j + 1, w, h => by
    simp [zst2] at h
    rcases zst2_at h with ⟨h1, h2⟩ | ⟨h1, h2, h3, h4⟩
    · exact Or.inl ⟨by omega, h2⟩
    · exact Or.inr ⟨by omega, by omega, by simpa using h3, by omega⟩
theorem zvr.cat {adK : Nat → Nat} {sa : Nat} {ws : va_W} {v : zV} {cv : Value} (h : zvr adK sa ws v cv) : cv.category = zcat v := by
  rcases v with z | z | r | s
  · obtain ⟨c, rfl, -⟩ := h; rfl
  · obtain ⟨c, rfl, -⟩ := h; rfl
  · obtain ⟨rfl, -⟩ := h
    cases r <;> rfl
  · obtain ⟨q, rfl, -⟩ := h; rfl
theorem zsr.sum {adK : Nat → Nat} {sa : Nat} {ws : va_W} : ∀ {st : List zV} {cs : List Value}, zsr adK sa ws st cs → (cs.map fun v => v.category).sum = zsum st
  | [], [], _ => rfl
  | v :: st, c :: cs, h => by
    have h1 := h.1.cat
    have h2 := zsr.sum h.2
    simp only [zsum, List.map_cons, List.sum_cons] at h2 ⊢
    rw [h1, h2]
  | [], _ :: _, h => h.elim
  | _ :: _, [], h => h.elim
theorem zsr.cons {adK : Nat → Nat} {sa : Nat} {ws : va_W} {v : zV} {st : List zV} {cs : List Value} (h : zsr adK sa ws (v :: st) cs) : ∃ cv cs', cs = cv :: cs' ∧ zvr adK sa ws v cv ∧ zsr adK sa ws st cs' := by
  rcases cs with _ | ⟨cv, cs⟩
  · exact h.elim
  · exact ⟨cv, cs, rfl, h.1, h.2⟩
theorem zsr.nil {adK : Nat → Nat} {sa : Nat} {ws : va_W} {cs : List Value} (h : zsr adK sa ws [] cs) : cs = [] := by
  rcases cs with _ | ⟨cv, cs⟩
  · rfl
  · exact h.elim
theorem zsr.app {adK : Nat → Nat} {sa : Nat} {ws : va_W} : ∀ {a b : List zV} {ca cb : List Value}, zsr adK sa ws a ca → zsr adK sa ws b cb → zsr adK sa ws (a ++ b) (ca ++ cb)
  | [], _, [], _, _, hb => hb
  | _ :: _, _, _ :: _, _, ha, hb => ⟨ha.1, zsr.app ha.2 hb⟩
  | [], _, _ :: _, _, ha, _ => ha.elim
  | _ :: _, _, [], _, ha, _ => ha.elim
theorem zsr.int {adK : Nat → Nat} {sa : Nat} {ws : va_W} {z : Int} {st : List zV} {cs : List Value} (h : zsr adK sa ws (.inl z :: st) cs) : ∃ (c : Int32) (cs' : List Value), cs = .int c :: cs' ∧ c.toInt = z ∧ zsr adK sa ws st cs' := by
  obtain ⟨cv, cs', rfl, ⟨c, rfl, h1⟩, h2⟩ := h.cons
  exact ⟨c, cs', rfl, h1, h2⟩
theorem zsr.long {adK : Nat → Nat} {sa : Nat} {ws : va_W} {z : Int} {st : List zV} {cs : List Value} (h : zsr adK sa ws (.inr (.inl z) :: st) cs) : ∃ (c : Int64) (cs' : List Value), cs = .long c :: cs' ∧ c.toInt = z ∧ zsr adK sa ws st cs' := by
  obtain ⟨cv, cs', rfl, ⟨c, rfl, h1⟩, h2⟩ := h.cons
  exact ⟨c, cs', rfl, h1, h2⟩
theorem zsr.ref {adK : Nat → Nat} {sa : Nat} {ws : va_W} {q : Nat} {st : List zV} {cs : List Value} (h : zsr adK sa ws (.inr (.inr (.inl (some q))) :: st) cs) : ∃ (cs' : List Value), cs = .ref (zadr ws q) :: cs' ∧ q < ws.length ∧ zsr adK sa ws st cs' := by
  obtain ⟨cv, cs', rfl, ⟨rfl, h1⟩, h2⟩ := h.cons
  exact ⟨cs', rfl, h1 q rfl, h2⟩
theorem zsr.str {adK : Nat → Nat} {sa : Nat} {ws : va_W} {q : Nat} {st : List zV} {cs : List Value} (h : zsr adK sa ws (.inr (.inr (.inr q)) :: st) cs) : ∃ (a : Nat) (cs' : List Value), cs = .ref a :: cs' ∧ (q < 16 → a = adK q) ∧ (q = 1000 → a = sa) ∧ zsr adK sa ws st cs' := by
  obtain ⟨cv, cs', rfl, ⟨a, rfl, h1, h3⟩, h2⟩ := h.cons
  exact ⟨a, cs', rfl, h1, h3, h2⟩
/-- a store of a value of one word, of two -/
theorem zlr.st1 {adK : Nat → Nat} {sa : Nat} {ws : va_W} {lo : zLo} {ls ls' : Array Slot} {i : Nat} {v : zV} {cv : Value} (h : zlr adK sa ws lo ls) (hv : zvr adK sa ws v cv) (h' : lv_has ls' lo.length ((i, cv) :: (zfull ls).filter (fun q => !(q.1 == i) && !(q.1 + 1 == i && q.2.category == 2)))) : zlr adK sa ws (zst1 lo i v) ls' := by
  refine ⟨by rw [zst1_len]; exact h'.1, h'.2.1, fun j w hj => ?_⟩
  rcases zst1_at hj with ⟨rfl, rfl⟩ | ⟨h1, h2, h3⟩
  · exact ⟨cv, h'.2.2 _ List.mem_cons_self, hv⟩
  · obtain ⟨cw, h4, h5⟩ := h.2.2 j w h2
    refine ⟨cw, h'.2.2 (j, cw) (List.mem_cons_of_mem _ (List.mem_filter.mpr ⟨zfull_mem.mpr h4, ?_⟩)), h5⟩
    have hc := h5.cat
    simp only [Bool.and_eq_true, Bool.not_eq_true', beq_eq_false_iff_ne, Bool.and_eq_false_iff]
    refine ⟨h1, ?_⟩
    by_cases hz : j + 1 = i
    · exact Or.inr (by rw [hc]; exact fun q => h3 ⟨hz, q⟩)
    · exact Or.inl hz
theorem zlr.st2 {adK : Nat → Nat} {sa : Nat} {ws : va_W} {lo : zLo} {ls ls' : Array Slot} {i : Nat} {v : zV} {cv : Value} (h : zlr adK sa ws lo ls) (hv : zvr adK sa ws v cv) (h' : lv_has ls' lo.length ((i, cv) :: (zfull ls).filter (fun q => !(q.1 == i) && (!(q.1 == i + 1) && !(q.1 + 1 == i && q.2.category == 2))))) : zlr adK sa ws (zst2 lo i v) ls' := by
  refine ⟨by rw [zst2_len]; exact h'.1, h'.2.1, fun j w hj => ?_⟩
  rcases zst2_at hj with ⟨rfl, rfl⟩ | ⟨h1, h1', h2, h3⟩
  · exact ⟨cv, h'.2.2 _ List.mem_cons_self, hv⟩
  · obtain ⟨cw, h4, h5⟩ := h.2.2 j w h2
    refine ⟨cw, h'.2.2 (j, cw) (List.mem_cons_of_mem _ (List.mem_filter.mpr ⟨zfull_mem.mpr h4, ?_⟩)), h5⟩
    have hc := h5.cat
    simp only [Bool.and_eq_true, Bool.not_eq_true', beq_eq_false_iff_ne, Bool.and_eq_false_iff]
    refine ⟨h1, h1', ?_⟩
    by_cases hz : j + 1 = i
    · exact Or.inr (by rw [hc]; exact fun q => h3 ⟨hz, q⟩)
    · exact Or.inl hz
