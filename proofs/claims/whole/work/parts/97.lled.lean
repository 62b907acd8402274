/-! StayHouseLaw.led: it catches what StayHouse.led throws -/
def zX0 : String → State → State → Prop := fun _ _ _ => False
theorem zofWH {l : Launch} {y : MethodName} {ws ws' : List Cond} {rm : Room} {Pc : Array Value → State → Prop} {Qc : Array Value → State → Outcome → State → Prop} {mc ms : Nat} {free : Addr → Prop} {cc : ByteArray} {maxL : Nat} {ret : Option FieldType} {hh : List (Nat × Nat × Nat × Nat)}
    (hy : plainName y.cls = true) (hw : ws = Cond.codeWith y cc maxL ret hh :: ws')
    (body : ∀ p e s m args below meth c s₁, BodyLoose p l y (headSpec ws rm) cc maxL ret e s m args below meth c s₁ → c.maxLocals = maxL → Pc args s →
      W p l e (headSpec ws rm).room s m args below meth c s.heap [] 0 0 (vx_MQ below Qc zX0 args s mc ms free) (entryFrame m args maxL)) : Met l y ws rm Pc Qc mc ms free := by
  refine MetFree.of_bodyS (code := cc) (maxLocals := maxL) (ret := ret) hy ?_ ?_
  · intro args s m h hn
    obtain ⟨m9, meth, c, hn9, h1, h2, h3, h4, -, h5, h6, -⟩ := Cond.codeWith_spec (atoms_spec (ws := ws) h _ (by rw [hw]; exact List.mem_cons_self))
    cases hn.symm.trans hn9
    exact ⟨meth, c, h1, h2, h3, h4, h5, h6⟩
  · intro p e s m args below meth c s₁ B hml hP _
    have hh0 : s₁.heap = s.heap := by rw [B.state]; rfl
    obtain ⟨t, a1, o, b1, b2, b3⟩ := body p e s m args below meth c s₁ B hml hP s₁ hh0 (Stand.of_body B)
    rcases b3 with b3 | ⟨q, -, E, ce, L, b4, -⟩
    · exact ⟨t, o, a1, b1, b2, b3⟩
    · exact b4.elim
theorem zll_w1 : Cond.methodLink RL 7 yX7_led ∈ zTs := by decide +kernel
theorem zll_w2 : Cond.instanceMethod yX7_led ∈ zTs := by decide +kernel
theorem zll_w3 : Cond.selects RX7 yX7_led yX7_led ∈ zTs := by decide +kernel
theorem zll_w4 : Cond.code yX7_led cX7_led 4 (some .int) ∈ zTg := by decide +kernel
theorem zll_w5 : Cond.initialized RX7 ∈ zTs := by decide +kernel
theorem zll_w6 : Cond.classLink RL 13 zNSE ∈ zTg := by decide +kernel
theorem zll_w7 : Cond.castable zNSE zNSE ∈ lw_tbl ∧ (goodWord (Cond.castable zNSE zNSE) || zNk (Cond.castable zNSE zNSE) || zNk2 (Cond.castable zNSE zNSE)) = true := by decide +kernel
theorem zll_w8 : ∃ (T : u_T) (N : Nat), zcl[7]? = some ("StayHouse", T, N) := ⟨_, _, rfl⟩
set_option maxHeartbeats 8000000 in
set_option maxRecDepth 100000 in
theorem zllM (D : va_G) (cA : Nat → ClassId) (adK adV : Nat → Nat) (sa : Nat) (l : Launch) (hlt : l.stackTraces = false) (d : Nat) (As : List zV) (G : zG) (h : zM) (Q : zQ) (ws : va_W) (cas : List Value) (sz : Nat) (H : zRunD ztb zmt' (d + 1) 220 As G h Q) (hR : zRel zcl zfty cA G h ws) (hcas : zsr adK sa ws As cas) :
    Met l yL_led (Cond.codeWith yL_led cL_led 4 (some .int) [(0, 9, 12, 13)] :: zTg) (zrm ztb (d + 1) 220) (va_Pc cas (zPre zcl D cA (zZs adK adV) ws sz)) (zQc zcl zfty D cA adK sa Q ws (va_A ws sz)) 1 6 (va_A ws sz) := by
  obtain ⟨e0, hmt, hlen, HW⟩ := H
  have hme : e0 = ((fun pc => zcL_led.lookup pc), (1, 6), 1, 4) := (Option.some.inj hmt).symm
  subst hme
  refine zofWH (cc := cL_led) (maxL := 4) (ret := some .int) (hh := [(0, 9, 12, 13)]) (by decide) rfl ?_
  intro p e s m args below meth c s₁ B hml hv
  obtain ⟨rfl, hsz, hP, hK, hZ, hD0⟩ := hv
  subst hsz
  have hx := B.exec
  have hb := B.bytes
  have hr := B.returns
  have hts0 := atoms_spec (ws := Cond.codeWith yL_led cL_led 4 (some .int) [(0, 9, 12, 13)] :: zTg) B.pre
  have htab := vx_table (x := yL_led) B (hts0 _ List.mem_cons_self)
  have htg : ∀ w ∈ zTg, w.before cas.toArray s = true := fun w hw => hts0 w (List.mem_cons_of_mem _ hw)
  have hts := zTs_of htg hZ.2.2.2.2.1
  have hown : s.vm.findClass RL = some m.cls := findClass_of_methodNamed B.named
  have hlocks := B.notSynchronized
  have hnm : meth.name = "led" := (name_of_methodNamed B.named B.method).1
  have hD := hD0.self (sz := s.heap.size)
  rw [lg_entry_eq]
  have hl := zlr_entry hcas hlen
  have hcx : zCtx zcl zfty zTs zTg zmi ztb zsref D cA adK sa (zZs adK adV) p l e (headSpec (Cond.codeWith yL_led cL_led 4 (some .int) [(0, 9, 12, 13)] :: zTg) (zrm ztb (d + 1) 220)).room s m cas.toArray below meth c cL_led 4 (1, 6) (va_A ws s.heap.size) ws (vx_MQ below (zQc zcl zfty D cA adK sa Q ws (va_A ws s.heap.size)) zX0 cas.toArray s 1 6 (va_A ws s.heap.size)) RL "led" 1 (0, 0, fun _ => 0) Q (zRunD ztb zmt' d) (fun pc => zcL_led.lookup pc) d := by
    refine ⟨hx, hb, hml, hown, hts, zTg_good, zCl_ok, hK, fun q h => Or.inr h, hZ, zZs_shut adK adV, ?_, fun q => hnm.trans q, ⟨Nat.le_refl _, Nat.le_refl _, Nat.le_refl _, Nat.le_refl _⟩, zsound D cA adK adV sa l d, ?_, fun x G h ws H locs ls pc _ q => absurd q (by decide), fun G h ws H locs ls pc _ q => absurd q (by decide), fun q => absurd q (by decide), fun pc idx id H locs ls cs k1 k2 hs => zldc hx hb hown hZ pc idx id H locs ls cs k1 k2 hs, fun pc idx id H locs ls cs k1 k2 h1 h2 h3 h4 h5 h6 h7 => zstrs hx hb hml hown hts hZ ?_ ?_ pc idx id H locs ls cs k1 k2 h1 h2 h3 h4 h5 h6 h7, fun q1 => absurd q1 (by decide), ?_, fun _ q1 => absurd q1 (by decide)⟩
    · intro pc j len a b z hlk
      by_cases e4 : pc = 4
      · subst e4
        have h9 := zkL_led4 _ (zlookup hlk) rfl
        simp only [Prod.mk.injEq] at h9
        obtain ⟨rfl, rfl, rfl, rfl, rfl⟩ := h9
        exact ⟨dL_led_4, rfl, fun _ => ⟨rfl, rfl, rfl, rfl, rfl⟩, fun q => absurd q (by decide), fun q => absurd q (by decide), fun q => absurd rfl q⟩
      · have h1 := List.all_eq_true.mp zkL_led (pc, j, len, a, b, z) (List.mem_filter.mpr ⟨zlookup hlk, by simpa using e4⟩)
        simp only [Bool.and_eq_true, decide_eq_true_eq] at h1
        exact ⟨h1.1, zLkB_ok (fun q => absurd q (by decide)) h1.2⟩
    · intro x G1 h1 ws1 H1 locs1 ls1 pc1 hd1 hrt hq hrel hp1 hd2 hs1 hx1
      refine vx_ret (W.iret hx hb hr (fun t ht hW => ⟨⟨some (zI x.toInt), some (.int x), G1, h1, ws1, rfl, ⟨⟨x, rfl, rfl⟩, trivial⟩, hq, hrel, hx1, by rw [ht]; exact hp1, hd2⟩, hs1.F ht⟩) hs1.2.2 hd1)
    · show 10 ≤ (d + 1) + 10; omega
    · show 400 ≤ 60 * (d + 1) + 400; exact Nat.le_add_left _ _
    · intro _ _ a idx lo st G1 h1 k As1 r st' hd9 ha hpop hs8 hk7 hk1 hk2 HF
      subst ha
      have hidx : idx = 7 := by
        have := dL_led_4.symm.trans hd9
        simp only [Except.ok.injEq, Prod.mk.injEq, Instr.invokevirtual.injEq] at this
        exact this.1.symm
      subst hidx
      intro H9 locs9 ws9 ls9 cs9 hR9 hP9 hD9 hS9 hE9 hl9 hst9 hn9 hkk
      obtain ⟨cas9, cs1, rfl, hcas9, hst1, hlen9⟩ := hst9.pop hpop
      obtain ⟨cs2, rfl, hq9, hst2⟩ := hst1.ref
      cases d with
      | zero => exact HF.elim
      | succ d =>
        have hM := zledM D cA adK adV sa l hlt d (zR (some r) :: As1) G1 h1 _ ws9 (.ref (zadr ws9 r) :: cas9) H9.size HF hR9 ⟨⟨rfl, fun q hq' => by cases hq'; exact hq9⟩, hcas9⟩
        obtain ⟨T8, N8, w8⟩ := zll_w8
        obtain ⟨e9, he, hce⟩ := hR9.at (k := r) (by omega)
        have hrecv : ∃ cell : Cell, H9[zadr ws9 r]? = some cell ∧ cell.vm.isStatics = false ∧ s.vm.findClass RX7 = some cell.cls := by
          rcases hce with ⟨k0, fs, C8, T9, rfl, -⟩ | ⟨k0, -⟩ | ⟨k0, -⟩ | ⟨k0, -⟩
          · rw [hk7] at he
            exact va_recv hK hP9 w8 he
          · omega
          · omega
          · omega
        have hpre : PreV s H9 RX7 (zadr ws9 r) (va_Pc (.ref (zadr ws9 r) :: cas9) (zPre zcl D cA (zZs adK adV) ws9 H9.size)) cas9 := ⟨zblind (zZs_shut adK adV), hrecv, zready hP9 hD9 hS9 (fun q h => Or.inr h) hK hZ (zZs_shut adK adV)⟩
        have hsum : (cs2.map fun v => v.category).sum ≤ 8 := by rw [hst2.sum]; exact hs8
        have hrun := vx_runV (R := (headSpec (Cond.codeWith yL_led cL_led 4 (some .int) [(0, 9, 12, 13)] :: zTg) (zrm ztb (d + 1 + 1) 220)).room) (As := cas9) (rest := cs2) (g := F0 m 4 ls9 (cas9.reverse ++ .ref (zadr ws9 r) :: cs2)) (locs := locs9) (cells := k.1) (slots := k.2) (e := e) (below := below) (meth := meth) ⟨hx, hb, hml, hown, hts⟩ hM ⟨callB_of 1 hts (zgoodC zTg_good zll_w4) rfl rfl rfl (hts _ zll_w5) (hts _ zll_w1) (by decide) ⟨zroomF (Nat.le_refl _), zroomL (Nat.le_refl _) (by decide)⟩, hts _ zll_w2, hts _ zll_w3⟩ hpre rfl hlen9 (by rw [← hn9]; exact hl9.1) rfl (lv_room hsum) hd9 ⟨hk1, hk2⟩
        have hfr := zfree (A := va_A ws s.heap.size) hD9 hS9 (fun q h => Or.inr h)
        intro T hT X
        rcases hrun T hT X with ⟨v, st₀, t, T', L, h0, X', hL, e1, e2, ⟨⟨zv, cv, G2, h2, ws2, hv, hor, ⟨hne, hq⟩, hrel, hext, hP2, hD2⟩, hz, hkp⟩, st9⟩ | ⟨q, st₀, t, T', L, E, ce, h0, X', hL, e1, e2, ⟨hE, ⟨G2, h2, ws2, hq, hrel, hext, hP2, hD2⟩, hz, hkp⟩, hce2, hcv, hcl, st9⟩
        · cases hv
          rw [if_neg hne] at hq
          rw [h0] at hz hkp
          obtain ⟨t2, a1, b1⟩ := hq T'.heap (locs9 ++ L) ws2 ls9 _ hrel (by rw [e1]; exact hP2) (hD2.weaken (fun _ _ _ q => hfr _ q)) ⟨Nat.le_trans hS9.1 (by rw [e1]; exact hz), fun q h1 h2 => by rw [e1, hkp q (Nat.lt_of_lt_of_le h1 hS9.1) (fun z => h2 (hfr q z))]; exact hS9.2.1 q h1 h2, fun q hq => by
            rcases List.mem_append.mp hq with h | h
            · exact hS9.2.2 q h
            · exact hfr _ (hL q h)⟩ (hE9.tr hext) (hl9.ext hext) (zsr.app hor (hst2.ext hext)) hn9 ⟨hk1, hk2⟩ T' rfl X'
          exact ⟨t2, st9 t2 a1, b1⟩
        · rw [if_pos rfl] at hq
          rw [h0] at hz hkp
          subst hE
          have w12 := hq T'.heap (locs9 ++ L) ws2 ls9 [.ref q] hrel (by rw [e1]; exact hP2) (hD2.weaken (fun _ _ _ q => hfr _ q)) ⟨Nat.le_trans hS9.1 (by rw [e1]; exact hz), fun q h1 h2 => by rw [e1, hkp q (Nat.lt_of_lt_of_le h1 hS9.1) (fun z => h2 (hfr q z))]; exact hS9.2.1 q h1 h2, fun q hq => by
            rcases List.mem_append.mp hq with h | h
            · exact hS9.2.2 q h
            · exact hfr _ (hL q h)⟩ (hE9.tr hext) (hl9.ext hext) ⟨⟨q, rfl, fun z => absurd z (by decide), fun z => absurd z (by decide)⟩, trivial⟩ hn9 ⟨hk1, hk2⟩
          have wc := vx_catch (pc := 4) (ls := ls9) (rest := cs2) hown [] { startPc := 0, endPc := 9, handlerPc := 12, catchType := 13 } [] (by rw [htab]; rfl) (fun z hz => nomatch hz) (by decide) (by decide) (htg _ zll_w6) (zword_at htg hZ.2.2.2.2.1 zll_w7) (by rw [e1]; exact hce2) hcv hcl w12
          obtain ⟨t2, a1, b1⟩ := wc T' rfl X'
          exact ⟨t2, st9.trans a1, b1⟩
  have hW := HW _ (zbody zsref_id hcx)
  exact hW s.heap [] ws _ [] hR hP hD va_S.rf zext.rf hl trivial hlen ⟨Nat.zero_le _, Nat.zero_le _⟩
