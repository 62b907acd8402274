set_option maxHeartbeats 4000000 in
theorem zmulti {cl : List vw_C} {fty : Nat → Nat → FieldType} {Ts Tg : List Cond} {mi : zMi} {tb : zTb} {sref : String → Nat → Nat → Prop} {D : va_G} {cA : Nat → ClassId} {adK : Nat → Nat} {sa : Nat} {p : Program} {l : Launch} {e : Env} {R : Room} {s : State} {m : MethodId} {args : Array Value} {below : List Frame} {meth : Method} {c : Code} {cc : ByteArray} {nL : Nat} {bud : zK} {A : Nat → Prop} {ws0 : va_W} {QQ : State → Prop} {own nm : String}
    (hx : p.tables.exec = Jvm.exec) (hb : c.code = cc) (hown : s.vm.findClass own = some m.cls) (hts : ∀ w ∈ Ts, w.before args s = true) (hK : va_K D cl (ztys cA) s) (hA : ∀ q, s.heap.size ≤ q → A q) (hR1 : bud.1 ≤ R.cells) (hR2 : bud.2 ≤ R.slots)
    {pc idx dim len a b : Nat} {z : Int} {lo : zLo} {st : List zV} {G : zG} {h : zM} {k : zK} {n m' : Int} (hdg : decode cc pc = .ok (.multianewarray idx dim, len)) (hlk : zLk cl fty Ts Tg mi tb sref own nm pc (.multianewarray idx dim) len a b z)
    (HF : 0 ≤ n ∧ n ≤ 1000000 ∧ 0 ≤ m' ∧ m' ≤ 1000000 ∧ k.1 + (1 + n.toNat) ≤ bud.1 ∧ k.2 + (n.toNat + n.toNat * m'.toNat) ≤ bud.2 ∧ zSt cl fty D cA adK sa p l e R s m args below meth c nL bud A ws0 QQ (pc + len) lo (zR (some G.1) :: st) (zgm G a b n.toNat m'.toNat) (zhm h G.1 n.toNat) (k.1 + 1 + n.toNat, k.2 + n.toNat + n.toNat * m'.toNat)) :
    zSt cl fty D cA adK sa p l e R s m args below meth c nL bud A ws0 QQ pc lo (zI m' :: zI n :: st) G h k := by
  obtain ⟨rfl, rfl, hab, w1, w2, w3⟩ := hlk
  obtain ⟨h1, h2, h3, h4, h5, h6, HF⟩ := HF
  intro H locs ws ls cs hR hP hD hS hE hl hst hn hk
  obtain ⟨m9, cs1, rfl, q1, hst1⟩ := hst.int
  obtain ⟨n9, cs2, rfl, q2, hst2⟩ := hst1.int
  have n1 : ¬ n9 < 0 := fun q => by have := zn_lt.mp q; rw [q2, zn_0] at this; omega
  have n2 : ¬ m9 < 0 := fun q => by have := zn_lt.mp q; rw [q1, zn_0] at this; omega
  -- what comes of it, for an inner cell e9 of kind b
  have key : ∀ (q : Nat) (r : Nat → Nat) (e9 : va_E) (H1 : Heap), (∀ ws' : va_W, zce cl fty cA ws' b m'.toNat (fun _ => none) (fun _ => 0) e9) →
      va_P D cl ((ws ++ [(q, .inl (cA a, n.toNat, .inr (.inr (.inr (.inr (fun i => if i < n.toNat then some (r i) else none))))))]) ++ (List.range n.toNat).map (fun i => (r i, e9))) H1 →
      va_D A ((ws ++ [(q, .inl (cA a, n.toNat, .inr (.inr (.inr (.inr (fun i => if i < n.toNat then some (r i) else none))))))]) ++ (List.range n.toNat).map (fun i => (r i, e9))) → va_S A s.heap H1 locs →
      W p l e R s m args below meth c H1 locs (k.1 + 1 + n.toNat) (k.2 + n.toNat + n.toNat * m'.toNat) QQ (F0 m (pc + 4) ls (.ref q :: cs2)) := by
    intro q r e9 H1 he9 hP1 hD1 hS1
    generalize hws : (ws ++ [(q, (.inl (cA a, n.toNat, .inr (.inr (.inr (.inr (fun i => if i < n.toNat then some (r i) else none))))) : va_E))]) ++ (List.range n.toNat).map (fun i => (r i, e9)) = ws' at hP1 hD1
    have hx1 : zext ws ws' := by rw [← hws, List.append_assoc]; exact zadr_app
    have hlen : ws'.length = G.1 + 1 + n.toNat := by rw [← hws]; simp [hR.1]; omega
    have at0 : ws'[G.1]? = some (q, .inl (cA a, n.toNat, .inr (.inr (.inr (.inr (fun i => if i < n.toNat then some (r i) else none)))))) := by
      rw [← hws, List.append_assoc, ← hR.1, List.getElem?_append_right (Nat.le_refl _), Nat.sub_self]; rfl
    have atr : ∀ i, i < n.toNat → ws'[G.1 + 1 + i]? = some (r i, e9) := by
      intro i hi
      rw [← hws, List.getElem?_append_right (by simp [hR.1]), List.length_append, hR.1, List.length_singleton, Nat.add_sub_cancel_left]
      rw [List.getElem?_map, List.getElem?_range hi]; rfl
    refine HF H1 locs ws' ls _ ⟨hlen, ?_, ?_⟩ hP1 hD1 hS1 (hE.tr hx1) (hl.ext hx1) ⟨⟨by rw [Option.map_some, zadr_of at0]; rfl, fun x hx' => by cases hx'; omega⟩, hst2.ext hx1⟩ hn ⟨by show k.1 + 1 + n.toNat ≤ _; omega, by show k.2 + n.toNat + n.toNat * m'.toNat ≤ _; omega⟩
    · intro c9 x9 hx9
      have hc9 : c9 < G.1 + 1 + n.toNat := by rw [← hlen]; exact (List.getElem?_eq_some_iff.mp hx9).1
      by_cases c1 : c9 = G.1
      · subst c1
        rw [at0] at hx9
        cases hx9
        have e1 : (zgm G a b n.toNat m'.toNat).2.1 G.1 = a := if_pos rfl
        have e2 : (zgm G a b n.toNat m'.toNat).2.2.1 G.1 = n.toNat := if_pos rfl
        rw [e1, e2]
        refine Or.inr (Or.inr (Or.inr ⟨by omega, _, rfl, fun j hj => ?_⟩))
        have e3 : (zgm G a b n.toNat m'.toNat).2.2.2 G.1 j = some (G.1 + 1 + j) := by show (if _ then (if _ then _ else _) else _) = _; rw [if_pos rfl, if_pos hj]
        rw [e3, if_pos hj, Option.map_some, zadr_of (atr j hj)]
        exact ⟨rfl, fun x hx' => by cases hx'; omega⟩
      · by_cases c2 : G.1 < c9 ∧ c9 ≤ G.1 + n.toNat
        · have e0 := atr (c9 - G.1 - 1) (by omega)
          rw [show G.1 + 1 + (c9 - G.1 - 1) = c9 by omega] at e0
          rw [e0] at hx9
          cases hx9
          have e1 : (zgm G a b n.toNat m'.toNat).2.1 c9 = b := by show (if _ then _ else if _ then _ else _) = _; rw [if_neg c1, if_pos c2]
          have e2 : (zgm G a b n.toNat m'.toNat).2.2.1 c9 = m'.toNat := by show (if _ then _ else if _ then _ else _) = _; rw [if_neg c1, if_pos c2]
          rw [e1, e2]
          refine zce.cong (g := fun _ => none) (hh := fun _ => 0) (fun j => ?_) (fun j => ?_) (he9 ws')
          · show (if _ then _ else if _ then _ else _) = _; rw [if_neg c1, if_pos c2]
          · show (if _ then _ else _) = _; rw [if_pos (by omega)]
        · have hl9 : c9 < ws.length := by rw [hR.1]; omega
          have e0 : ws'[c9]? = ws[c9]? := by rw [← hws, List.append_assoc, List.getElem?_append_left hl9]
          rw [e0] at hx9
          have e1 : (zgm G a b n.toNat m'.toNat).2.1 c9 = G.2.1 c9 := by show (if _ then _ else if _ then _ else _) = _; rw [if_neg c1, if_neg c2]
          have e2 : (zgm G a b n.toNat m'.toNat).2.2.1 c9 = G.2.2.1 c9 := by show (if _ then _ else if _ then _ else _) = _; rw [if_neg c1, if_neg c2]
          rw [e1, e2]
          refine zce.cong (g := G.2.2.2 c9) (hh := h c9) (fun j => ?_) (fun j => ?_) ((hR.2.1 c9 _ hx9).ext hx1)
          · show (if _ then _ else if _ then _ else _) = _; rw [if_neg c1, if_neg c2]
          · show (if _ then _ else _) = _; rw [if_neg (by omega)]
    · intro c9 hc9
      have hc9' : G.1 + 1 + n.toNat ≤ c9 := hc9
      show (if _ then _ else if _ then _ else _) = _
      rw [if_neg (by omega), if_neg (by omega)]
      exact hR.2.2 c9 (by omega)
  have hrows : ∀ (r : Nat → Nat) (f : Nat → va_E) (e9 : va_E), va_pl ([] ++ (List.range n.toNat).map r) (vr_up f ((List.range n.toNat).map r) e9) = (List.range n.toNat).map (fun i => (r i, e9)) := by
    intro r f e9
    unfold va_pl
    rw [List.nil_append, List.map_map]
    refine List.map_congr_left (fun i hi => ?_)
    show (r i, vr_up f _ e9 (r i)) = _
    rw [vr_up_in (List.mem_map_of_mem hi)]
  have hP0 : ∀ f : Nat → va_E, va_P D cl (ws ++ va_pl [] f) H := fun f => by simpa [va_pl] using hP
  have hD0 : ∀ f : Nat → va_E, va_D A (ws ++ va_pl [] f) := fun f => by simpa [va_pl] using hD
  rcases hab with ⟨rfl, rfl⟩ | ⟨rfl, rfl⟩
  · refine va_mna (X := ws) (L := []) (f := fun _ => .inl (cA 10, 0, .inl (fun _ => 0))) (ty := .int) (cy := cA 10) (z := (m'.toNat, .inl (fun _ => 0))) hx hb hown (hts _ w1) (hts _ w2) (hts _ w3) (hK.2 0 _ rfl).2 hK (hP0 _) (hD0 _) hS hA n1 n2 (zn_idx q2) (zn_idx q1) (by omega) (by simp only [componentBytes]; omega) (by omega) rfl rfl (by omega) (by omega) (fun c => ?_) hdg (fun q r cA9 H1 _ _ hK1 hP1 hD1 hS1 => ?_)
    · show ({ cls := c, slots := _, vm := .none } : Cell) = _
      rw [vp_cell_i, arrV_new]; rfl
    · have ec : cA9 = cA 14 := Option.some.inj ((hK1.2 6 _ rfl).2.symm.trans (hK.2 4 _ rfl).2)
      subst ec
      rw [hrows] at hP1 hD1
      exact key q r _ H1 (fun ws' => Or.inr (Or.inl ⟨by omega, _, rfl, fun _ _ => rfl⟩)) hP1 hD1 hS1
  · refine va_mna (X := ws) (L := []) (f := fun _ => .inl (cA 11, 0, .inr (.inl (fun _ => 0)))) (ty := .long) (cy := cA 11) (z := (m'.toNat, .inr (.inl (fun _ => 0)))) hx hb hown (hts _ w1) (hts _ w2) (hts _ w3) (hK.2 1 _ rfl).2 hK (hP0 _) (hD0 _) hS hA n1 n2 (zn_idx q2) (zn_idx q1) (by omega) (by simp only [componentBytes]; omega) (by omega) rfl rfl (by omega) (by omega) (fun c => ?_) hdg (fun q r cA9 H1 _ _ hK1 hP1 hD1 hS1 => ?_)
    · show ({ cls := c, slots := _, vm := .none } : Cell) = _
      rw [vp_cell_l, arrV_new]; rfl
    · have ec : cA9 = cA 15 := Option.some.inj ((hK1.2 6 _ rfl).2.symm.trans (hK.2 5 _ rfl).2)
      subst ec
      rw [hrows] at hP1 hD1
      exact key q r _ H1 (fun ws' => Or.inr (Or.inr (Or.inl ⟨rfl, _, rfl, fun _ _ => rfl⟩))) hP1 hD1 hS1
