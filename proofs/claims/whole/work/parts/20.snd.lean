/-! EVERY METHOD's PURE RUN GIVES ITS CONTRACT -/
theorem zent_len {n : Nat} {As : List zV} (h : (zent n As).length = n) : (As.flatMap (fun v => if zcat v = 2 then [some v, none] else [some v])).length ≤ n := by
  unfold zent at h
  simp only [List.length_append, List.length_replicate] at h
  omega
theorem zent_args {adK : Nat → Nat} {sa : Nat} {ws : va_W} : ∀ (As : List zV) (cas : List Value), zsr adK sa ws As cas → ∀ (j i : Nat) (v : zV), (As.flatMap (fun v => if zcat v = 2 then [some v, none] else [some v]))[i]? = some (some v) → ∃ cv, (j + i, cv) ∈ lv_args j cas ∧ zvr adK sa ws v cv
  | [], [], _, j, i, v, h => by simp at h
  | a :: As, c :: cas, hs, j, i, v, h => by
    have hc := hs.1.cat
    rw [List.flatMap_cons] at h
    by_cases h2 : zcat a = 2
    · rw [if_pos h2] at h
      rcases i with _ | _ | i
      · simp at h
        subst h
        exact ⟨c, List.mem_cons_self, hs.1⟩
      · simp at h
      · simp only [List.cons_append, List.nil_append, List.getElem?_cons_succ] at h
        obtain ⟨cv, h3, h4⟩ := zent_args As cas hs.2 (j + 2) i v h
        refine ⟨cv, List.mem_cons_of_mem _ ?_, h4⟩
        rw [if_pos (by rw [hc]; exact h2), show j + (i + 1 + 1) = j + 2 + i by omega]
        exact h3
    · rw [if_neg h2] at h
      rcases i with _ | i
      · simp at h
        subst h
        exact ⟨c, List.mem_cons_self, hs.1⟩
      · simp only [List.cons_append, List.nil_append, List.getElem?_cons_succ] at h
        obtain ⟨cv, h3, h4⟩ := zent_args As cas hs.2 (j + 1) i v h
        refine ⟨cv, List.mem_cons_of_mem _ ?_, h4⟩
        rw [if_neg (by rw [hc]; exact h2), show j + (i + 1) = j + 1 + i by omega]
        exact h3
  | [], _ :: _, hs, _, _, _, _ => hs.elim
  | _ :: _, [], hs, _, _, _, _ => hs.elim
theorem zsl_len {adK : Nat → Nat} {sa : Nat} {ws : va_W} : ∀ {As : List zV} {cas : List Value}, zsr adK sa ws As cas → (lg_sl cas).length = (As.flatMap (fun v => if zcat v = 2 then [some v, none] else [some v])).length
  | [], [], _ => rfl
  | a :: As, c :: cas, hs => by
    have hc := hs.1.cat
    have ih := zsl_len hs.2
    unfold lg_sl at ih ⊢
    rw [List.flatMap_cons, List.flatMap_cons, List.length_append, List.length_append, ih, hc]
    by_cases h2 : zcat a = 2 <;> simp [h2]
  | [], _ :: _, hs => hs.elim
  | _ :: _, [], hs => hs.elim
theorem zlr_entry {adK : Nat → Nat} {sa : Nat} {ws : va_W} {n : Nat} {As : List zV} {cas : List Value} (hs : zsr adK sa ws As cas) (hl : (zent n As).length = n) : zlr adK sa ws (zent n As) ((lg_sl cas ++ List.replicate (n - (lg_sl cas).length) Slot.unset).toArray) := by
  have h1 := zent_len hl
  have h2 := zsl_len hs
  have hh := lv_entry cas (n := n) (by rw [h2]; exact h1)
  refine ⟨by rw [hl]; exact hh.1, hh.2.1, fun i v hi => ?_⟩
  have hi2 : (As.flatMap (fun v => if zcat v = 2 then [some v, none] else [some v]))[i]? = some (some v) := by
    unfold zent at hi
    simp only at hi
    by_cases hlt : i < (As.flatMap (fun v => if zcat v = 2 then [some v, none] else [some v])).length
    · rw [List.getElem?_append_left hlt] at hi
      exact hi
    · rw [List.getElem?_append_right (by omega), List.getElem?_replicate] at hi
      split at hi <;> cases hi
  obtain ⟨cv, h3, h4⟩ := zent_args As cas hs 0 i v hi2
  rw [Nat.zero_add] at h3
  exact ⟨cv, hh.2.2 _ h3, h4⟩
section SO
variable {adK adV : Nat → Nat} {p : Program} {l : Launch} {e : Env} {R : Room} {s : State} {m : MethodId} {args : Array Value} {below : List Frame} {meth : Method} {c : Code} {cc : ByteArray} {nL : Nat} {A : Nat → Prop} {QQ : State → Prop} {own : String}
set_option maxHeartbeats 4000000 in
set_option maxRecDepth 100000 in
theorem zstrs (hx : p.tables.exec = Jvm.exec) (hb : c.code = cc) (hml : c.maxLocals = nL) (hown : s.vm.findClass own = some m.cls) (hts : ∀ w ∈ zTs, w.before args s = true) (hZ : zZs adK adV A s s.heap) (hRf : 10 ≤ R.frames) (hRl : 400 ≤ R.locals)
    (pc idx id : Nat) (H : Heap) (locs : List Loc) (ls : Array Slot) (cs : List Value) (k1 k2 : Nat) (hi : id < 16) (hS : va_S A s.heap H locs) (hn : ls.size = nL) (hsum : (cs.map fun v => v.category).sum ≤ 8) (hk1 : k1 ≤ R.cells) (hk2 : k2 ≤ R.slots) (hdg : decode cc pc = .ok (.invokevirtual idx, 3)) :
      (Cond.methodLink own idx ⟨"java/lang/String", "length", "()I"⟩ ∈ zTs → (∀ x : Int32, x.toInt = (ztb.2.1 id).length → W p l e R s m args below meth c H locs k1 k2 QQ (F0 m (pc + 3) ls (.int x :: cs))) → W p l e R s m args below meth c H locs k1 k2 QQ (F0 m pc ls (.ref (adK id) :: cs)))
      ∧ (Cond.methodLink own idx ⟨"java/lang/String", "charAt", "(I)C"⟩ ∈ zTs → ∀ i : Int32, 0 ≤ i.toInt → i.toInt < (ztb.2.1 id).length → (∀ x : Int32, x.toInt = (ztb.2.1 id).getD i.toInt.toNat 0 → W p l e R s m args below meth c H locs k1 k2 QQ (F0 m (pc + 3) ls (.int x :: cs))) → W p l e R s m args below meth c H locs k1 k2 QQ (F0 m pc ls (.int i :: .ref (adK id) :: cs))) := by
  have hc := zch_ok id hi
  have hrecv : ∃ cellB : Cell, H[adK id]? = some cellB ∧ cellB.vm.isStatics = false ∧ s.vm.findClass RJ0 = some cellB.cls := vk_recv hZ.1 hi hS
  refine ⟨fun hl kk => ?_, fun hl i h0 h1 kk => ?_⟩
  · refine W.callR (W.runV (As := []) (rest := cs) (C := RJ0) (b := adK id) ⟨hx, hb, hml, hown, hts⟩ (zm_length l adK adV A id hi) ⟨callB_of 0 hts (zgoodS (zmg 454 rfl)) rfl rfl rfl (hts _ (zmt 10 rfl)) (hts _ hl) ⟨by decide, by decide, by decide +kernel⟩ ⟨by show 1 + 1 ≤ R.frames; omega, by show 8 + (1 + 11) + 60 ≤ R.locals; omega⟩, hts _ (zmt 452 rfl), hts _ (zmt 453 rfl)⟩ ⟨zZblind, hrecv, zZready hZ hS⟩ rfl rfl hn rfl (lv_room hsum) hdg ⟨hk1, hk2⟩) ?_
    exact kk _ (by rw [nI_toInt (by omega), hc.1]; rfl)
  · obtain ⟨k, hk, rfl⟩ : ∃ k : Nat, k < zslen.getD id 0 ∧ i = nI k := ⟨i.toInt.toNat, by rw [hc.1]; have : (ztb.2.1 id) = zstr.getD id [] := rfl; rw [this] at h1; omega, zn_nI rfl h0⟩
    refine W.callR (W.runV (As := [.int (nI k)]) (rest := cs) (C := RJ0) (b := adK id) ⟨hx, hb, hml, hown, hts⟩ (zm_charAt l adK adV A id hi k hk) ⟨callB_of 1 hts (zgoodS (zmg 464 rfl)) rfl rfl rfl (hts _ (zmt 10 rfl)) (hts _ hl) ⟨by decide, by decide, by decide +kernel⟩ ⟨by show 3 + 1 ≤ R.frames; omega, by show 8 + (2 + 11) + 180 ≤ R.locals; omega⟩, hts _ (zmt 462 rfl), hts _ (zmt 463 rfl)⟩ ⟨zZblind, hrecv, zZready hZ hS⟩ rfl rfl hn rfl (lv_room hsum) hdg ⟨hk1, hk2⟩) ?_
    refine kk _ ?_
    rw [nI_toInt (by omega)]
    exact hc.2.2 k (by rw [← hc.1]; exact hk)
end SO
theorem zTs_of {args : Array Value} {s : State} (hg : ∀ w ∈ zTg, w.before args s = true) (hn : ∀ w ∈ lw_tbl, (zNk w || zNk2 w) = true → va_Nw w s) : ∀ w ∈ zTs, w.before args s = true := by
  intro w hw
  obtain ⟨h1, h2⟩ := List.mem_filter.mp hw
  by_cases g : goodWord w = true
  · exact hg w (List.mem_filter.mpr ⟨h1, g⟩)
  · have hk : zNk w = true := by simpa [g] using h2
    have hz := hn w h1 (by rw [hk]; rfl)
    cases w <;> first
      | (simp [zNk] at hk; done)
      | exact va_Nw.use rfl hz
      | exact hz
set_option maxHeartbeats 8000000 in
set_option maxRecDepth 100000 in
theorem zsound (D : va_G) (cA : Nat → ClassId) (adK adV : Nat → Nat) (sa : Nat) (l : Launch) : ∀ d, zCal zcl zfty zTg zmi ztb D cA adK sa (zZs adK adV) l (zRunD ztb zmt' d) d
  | 0 => fun _ _ _ _ _ _ _ _ _ _ _ _ H => H.elim
  | d + 1 => by
    intro a As G h Q y by' ml rt ws cas sz H hmi hR hcas
    obtain ⟨e0, hmt, hlen, HW⟩ := H
    -- the method's entry
    obtain ⟨en, hen⟩ : ∃ en, zMR[a]? = some en := by
      unfold zmi at hmi
      cases h9 : zMR[a]? with
      | none => rw [h9] at hmi; cases hmi
      | some en => exact ⟨en, rfl⟩
    have hord : en.2.2.2.2.2.2.2.2.2.2.1 = true ∧ en.1 = y ∧ en.2.1 = by' ∧ en.2.2.1 = ml ∧ en.2.2.2.1 = rt := by
      unfold zmi at hmi
      rw [hen] at hmi
      simp only at hmi
      split at hmi
      · rename_i q
        simp only [Option.some.injEq, Prod.mk.injEq] at hmi
        exact ⟨q, hmi⟩
      · cases hmi
    obtain ⟨ho, rfl, rfl, rfl, rfl⟩ := hord
    have hme : e0 = ((fun pc => en.2.2.2.2.2.2.2.2.2.2.2.lookup pc), en.2.2.2.2.2.2.2.1, en.2.2.2.2.2.2.2.2.1, en.2.2.1) := by
      unfold zmt' at hmt
      rw [hen] at hmt
      exact (Option.some.inj hmt).symm
    subst hme
    have hbud := ztb_bud hen
    obtain ⟨m1, m2, m3, m4, m5, m6, m7, m8, m9, m10, ⟨ini, m11, m12⟩, m13, m14⟩ := zMR_ok en (List.mem_of_getElem? hen) ho
    refine va_MetF (cc := en.2.1) (maxL := en.2.2.1) (ret := en.2.2.2.1) m1 rfl ?_
    intro p e s m args below meth c s₁ B hml hv
    obtain ⟨rfl, hsz, hP, hK, hZ, hD0⟩ := hv
    subst hsz
    have hx := B.exec
    have hb := B.bytes
    have hr := B.returns
    have hts0 := atoms_spec (ws := Cond.code en.1 en.2.1 en.2.2.1 en.2.2.2.1 :: zTg) B.pre
    have hts := zTs_of (fun w hw => hts0 w (List.mem_cons_of_mem _ hw)) hZ.2.2.2.2.1
    have hown : s.vm.findClass en.1.cls = some m.cls := findClass_of_methodNamed B.named
    have hlocks := B.notSynchronized
    have hnm : meth.name = en.1.name := (name_of_methodNamed B.named B.method).1
    have hD := hD0.self (sz := s.heap.size)
    rw [lg_entry_eq]
    have hl := zlr_entry hcas hlen
    have hcx : zCtx zcl zfty zTs zTg zmi ztb zsref D cA adK sa (zZs adK adV) p l e (headSpec (Cond.code en.1 en.2.1 en.2.2.1 en.2.2.2.1 :: zTg) (zrm ztb (d + 1) a)).room s m cas.toArray below meth c en.2.1 en.2.2.1 en.2.2.2.2.2.2.2.1 (va_A ws s.heap.size) ws (MQ below (zQc zcl zfty D cA adK sa Q ws (va_A ws s.heap.size)) cas.toArray s (ztb.2.2.1 a).1 (ztb.2.2.1 a).2 (va_A ws s.heap.size)) en.1.cls en.1.name en.2.2.2.2.2.2.2.2.1 (0, 0, fun _ => 0) Q (zRunD ztb zmt' d) (fun pc => en.2.2.2.2.2.2.2.2.2.2.2.lookup pc) d := by
      refine ⟨hx, hb, hml, hown, hts, zTg_good, zCl_ok, hK, fun q h => Or.inr h, hZ, zZs_shut adK adV, ?_, fun q => hnm.trans q, ?_, zsound D cA adK adV sa l d, ?_, ?_, ?_, fun q => absurd q (by decide), fun pc idx id H locs ls cs k1 k2 hs => zldc hx hb hown hZ pc idx id H locs ls cs k1 k2 hs, fun pc idx id H locs ls cs k1 k2 h1 h2 h3 h4 h5 h6 h7 => zstrs hx hb hml hown hts hZ ?_ ?_ pc idx id H locs ls cs k1 k2 h1 h2 h3 h4 h5 h6 h7, fun q1 q2 => absurd ⟨q1, q2⟩ m13, fun q1 => absurd q1 m14, fun q1 => absurd q1 m14⟩
      · have hc := zchk_ok (nm := en.1.name) m11 m12
        rw [← m6] at hc
        exact hc
      · refine ⟨?_, ?_, ?_, ?_⟩
        · show _ ≤ (zrm ztb (d + 1) a).cells; show _ ≤ (ztb.2.2.1 a).1; rw [hbud]; exact Nat.le_refl _
        · show _ ≤ (zrm ztb (d + 1) a).slots; show _ ≤ (ztb.2.2.1 a).2; rw [hbud]; exact Nat.le_refl _
        · exact Nat.le_refl _
        · exact Nat.le_refl _
      · intro x G1 h1 ws1 H1 locs1 ls1 pc1 hd1 hrt hq hrel hp1 hd2 hs1 hx1
        rw [← hbud]
        refine W.zret (ty := if en.2.2.2.2.2.2.2.2.1 = 2 then .boolean else .int) hx hb ?_ ?_ (fun t ht hW => ⟨⟨some (zI x.toInt), some (.int x), G1, h1, ws1, rfl, ⟨⟨x, rfl, rfl⟩, trivial⟩, hq, hrel, hx1, by rw [ht]; exact hp1, hd2⟩, hs1.F ht⟩) hs1.2.2 hd1
        · rw [hr]
          rcases m7 with ⟨q1, q2⟩ | ⟨q1, q2⟩ | ⟨q1, q2⟩ | ⟨q1, q2⟩ <;> rw [q1] at hrt ⊢ <;> simp at hrt <;> rw [q2] <;> rfl
        · rcases hrt with q | ⟨q, hz⟩
          · rw [q]; rfl
          · rw [q]; exact (zn_bool hz).1
      · intro x G1 h1 ws1 H1 locs1 ls1 pc1 hd1 hrt hq hrel hp1 hd2 hs1 hx1
        rw [← hbud]
        refine W.lret hx hb ?_ (fun t ht hW => ⟨⟨some (zL x.toInt), some (.long x), G1, h1, ws1, rfl, ⟨⟨x, rfl, rfl⟩, trivial⟩, hq, hrel, hx1, by rw [ht]; exact hp1, hd2⟩, hs1.F ht⟩) hs1.2.2 hd1
        rw [hr]
        rcases m7 with ⟨q1, q2⟩ | ⟨q1, q2⟩ | ⟨q1, q2⟩ | ⟨q1, q2⟩ <;> rw [q1] at hrt <;> simp at hrt
        exact q2
      · intro G1 h1 ws1 H1 locs1 ls1 pc1 hd1 hrt hq hrel hp1 hd2 hs1 hx1
        rw [← hbud]
        refine W.vret hx hb ?_ (fun t ht hW => ⟨⟨none, _, G1, h1, ws1, rfl, trivial, hq, hrel, hx1, by rw [ht]; exact hp1, hd2⟩, hs1.F ht⟩) hs1.2.2 hd1
        rw [hr]
        rcases m7 with ⟨q1, q2⟩ | ⟨q1, q2⟩ | ⟨q1, q2⟩ | ⟨q1, q2⟩ <;> rw [q1] at hrt <;> simp at hrt
        exact q2
      · show 10 ≤ (d + 1) + 10; omega
      · show 400 ≤ 60 * (d + 1) + 400; exact Nat.le_add_left _ _
    have hW := HW _ (zbody zsref_id hcx)
    exact hW s.heap [] ws _ [] hR hP hD va_S.rf zext.rf hl trivial hlen ⟨Nat.zero_le _, Nat.zero_le _⟩
