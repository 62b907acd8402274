theorem dX7_led_43 : decode cX7_led 43 = .ok (.new 312, 3) := by decide +kernel
theorem dX7_led_46 : decode cX7_led 46 = .ok (.dup, 1) := by decide +kernel
theorem dX7_led_47 : decode cX7_led 47 = .ok (.ldc_w 314, 3) := by decide +kernel
theorem dX7_led_50 : decode cX7_led 50 = .ok (.invokespecial 316, 3) := by decide +kernel
theorem dX7_led_53 : decode cX7_led 53 = .ok (.athrow, 1) := by decide +kernel
theorem dL_led_0 : decode cL_led 0 = .ok (.aload_n 2, 1) := by decide +kernel
theorem dL_led_1 : decode cL_led 1 = .ok (.iconst 0, 1) := by decide +kernel
theorem dL_led_2 : decode cL_led 2 = .ok (.aload_n 0, 1) := by decide +kernel
theorem dL_led_3 : decode cL_led 3 = .ok (.iload_n 1, 1) := by decide +kernel
theorem dL_led_4 : decode cL_led 4 = .ok (.invokevirtual 7, 3) := by decide +kernel
theorem dL_led_7 : decode cL_led 7 = .ok (.i2l, 1) := by decide +kernel
theorem dL_led_8 : decode cL_led 8 = .ok (.lastore, 1) := by decide +kernel
theorem dL_led_9 : decode cL_led 9 = .ok (.goto 6, 3) := by decide +kernel
theorem dL_led_12 : decode cL_led 12 = .ok (.astore_n 3, 1) := by decide +kernel
theorem dL_led_13 : decode cL_led 13 = .ok (.iconst 1, 1) := by decide +kernel
theorem dL_led_14 : decode cL_led 14 = .ok (.ireturn, 1) := by decide +kernel
theorem dL_led_15 : decode cL_led 15 = .ok (.iconst 0, 1) := by decide +kernel
theorem dL_led_16 : decode cL_led 16 = .ok (.ireturn, 1) := by decide +kernel
theorem zkX7_led : zchk 7 false cX7_led (zcX7_led.filter (fun x => x.1 != 43)) = true := by decide +kernel
theorem zkX7_led43 : ∀ x ∈ zcX7_led, x.1 = 43 → x.2 = (.new 312, 3, 0, 0, 99) := by decide +kernel
theorem zkL_led : zchk 12 false cL_led (zcL_led.filter (fun x => x.1 != 4)) = true := by decide +kernel
theorem zkL_led4 : ∀ x ∈ zcL_led, x.1 = 4 → x.2 = (.invokevirtual 7, 3, 92, 1, 6) := by decide +kernel
def zNSE : String := "java/util/NoSuchElementException"
def zat1 : List Cond := zoaF "StayHouse" 316 zNSE 13 prog_26_method_4_code "java/lang/RuntimeException" ["java/lang/Exception"]
set_option maxRecDepth 100000 in
theorem zat1_in : ∀ w ∈ zat1, w ∈ lw_tbl ∧ (goodWord w || zNk w || zNk2 w) = true := by decide +kernel
theorem zat1_ot : ∀ w ∈ Cond.classLink "StayHouse" 312 zNSE :: Cond.initialized zNSE :: zat1, vx_ot w = true := by decide +kernel
theorem zled_w1 : Cond.classLink RX7 312 zNSE ∈ zTg := by decide +kernel
theorem zled_w2 : Cond.initialized zNSE ∈ zTg := by decide +kernel
theorem zword_at {args : Array Value} {s : State} (hg : ∀ w ∈ zTg, w.before args s = true) (hn : ∀ w ∈ lw_tbl, (zNk w || zNk2 w) = true → va_Nw w s) {w : Cond} (h : w ∈ lw_tbl ∧ (goodWord w || zNk w || zNk2 w) = true) : w.before args s = true := by
  obtain ⟨h1, h2⟩ := h
  by_cases g : goodWord w = true
  · exact hg w (List.mem_filter.mpr ⟨h1, g⟩)
  · have hk : (zNk w || zNk2 w) = true := by simpa [g] using h2
    have hz := hn w h1 hk
    cases w <;> first
      | (simp [zNk, zNk2] at hk; done)
      | exact va_Nw.use rfl hz
      | exact hz

/-- how StayHouse.led throws -/
def zXC (D : va_G) (cA : Nat → ClassId) (Q : zQ) (ws0 : va_W) (A : Nat → Prop) : String → State → State → Prop := fun E st t => E = zNSE ∧ (∃ (G : zG) (h : zM) (ws : va_W), Q (some (zT 2000)) G h ∧ zRel zcl zfty cA G h ws ∧ zext ws0 ws ∧ va_P D zcl ws t.heap ∧ va_D A ws) ∧ va_F A st t
set_option maxHeartbeats 8000000 in
set_option maxRecDepth 100000 in
theorem zledM (D : va_G) (cA : Nat → ClassId) (adK adV : Nat → Nat) (sa : Nat) (l : Launch) (hlt : l.stackTraces = false) (d : Nat) (As : List zV) (G : zG) (h : zM) (Q : zQ) (ws : va_W) (cas : List Value) (sz : Nat) (H : zRunD ztb zmt' (d + 1) 92 As G h Q) (hR : zRel zcl zfty cA G h ws) (hcas : zsr adK sa ws As cas) :
    vx_Met l yX7_led (Cond.code yX7_led cX7_led 4 (some .int) :: zTg) (zrm ztb (d + 1) 92) (va_Pc cas (zPre zcl D cA (zZs adK adV) ws sz)) (zQc zcl zfty D cA adK sa (fun v G h => v ≠ some (zT 2000) ∧ Q v G h) ws (va_A ws sz)) (zXC D cA Q ws (va_A ws sz)) 1 6 (va_A ws sz) := by
  obtain ⟨e0, hmt, hlen, HW⟩ := H
  have hme : e0 = ((fun pc => zcX7_led.lookup pc), (1, 6), 1, 4) := (Option.some.inj hmt).symm
  subst hme
  refine vx_ofW (cc := cX7_led) (maxL := 4) (ret := some .int) (by decide) rfl ?_
  intro p e s m args below meth c s₁ B hml hex hv
  obtain ⟨rfl, hsz, hP, hK, hZ, hD0⟩ := hv
  subst hsz
  have hx := B.exec
  have hb := B.bytes
  have hr := B.returns
  have hts0 := atoms_spec (ws := Cond.code yX7_led cX7_led 4 (some .int) :: zTg) B.pre
  have htg : ∀ w ∈ zTg, w.before cas.toArray s = true := fun w hw => hts0 w (List.mem_cons_of_mem _ hw)
  have hts := zTs_of htg hZ.2.2.2.2.1
  have hown : s.vm.findClass RX7 = some m.cls := findClass_of_methodNamed B.named
  have hlocks := B.notSynchronized
  have hnm : meth.name = "led" := (name_of_methodNamed B.named B.method).1
  have hD := hD0.self (sz := s.heap.size)
  rw [lg_entry_eq]
  have hl := zlr_entry hcas hlen
  have hcx : zCtx zcl zfty zTs zTg zmi ztb zsref D cA adK sa (zZs adK adV) p l e (headSpec (Cond.code yX7_led cX7_led 4 (some .int) :: zTg) (zrm ztb (d + 1) 92)).room s m cas.toArray below meth c cX7_led 4 (1, 6) (va_A ws s.heap.size) ws (vx_MQ below (zQc zcl zfty D cA adK sa (fun v G h => v ≠ some (zT 2000) ∧ Q v G h) ws (va_A ws s.heap.size)) (zXC D cA Q ws (va_A ws s.heap.size)) cas.toArray s 1 6 (va_A ws s.heap.size)) RX7 "led" 1 (0, 0, fun _ => 0) Q (zRunD ztb zmt' d) (fun pc => zcX7_led.lookup pc) d := by
    refine ⟨hx, hb, hml, hown, hts, zTg_good, zCl_ok, hK, fun q h => Or.inr h, hZ, zZs_shut adK adV, ?_, fun q => hnm.trans q, ⟨Nat.le_refl _, Nat.le_refl _, Nat.le_refl _, Nat.le_refl _⟩, zsound D cA adK adV sa l d, ?_, fun x G h ws H locs ls pc _ q => absurd q (by decide), fun G h ws H locs ls pc _ q => absurd q (by decide), fun q => absurd q (by decide), fun pc idx id H locs ls cs k1 k2 hs => zldc hx hb hown hZ pc idx id H locs ls cs k1 k2 hs, fun pc idx id H locs ls cs k1 k2 h1 h2 h3 h4 h5 h6 h7 => zstrs hx hb hml hown hts hZ ?_ ?_ pc idx id H locs ls cs k1 k2 h1 h2 h3 h4 h5 h6 h7, ?_, fun q1 => absurd q1 (by decide), fun q1 => absurd q1 (by decide)⟩
    · intro pc j len a b z hlk
      by_cases e43 : pc = 43
      · subst e43
        have h9 := zkX7_led43 _ (zlookup hlk) rfl
        simp only [Prod.mk.injEq] at h9
        obtain ⟨rfl, rfl, rfl, rfl, rfl⟩ := h9
        exact ⟨dX7_led_43, rfl, fun _ => ⟨rfl, rfl, rfl⟩, fun q => absurd rfl q⟩
      · have h1 := List.all_eq_true.mp zkX7_led (pc, j, len, a, b, z) (List.mem_filter.mpr ⟨zlookup hlk, by simpa using e43⟩)
        simp only [Bool.and_eq_true, decide_eq_true_eq] at h1
        exact ⟨h1.1, zLkB_ok (fun q => absurd q (by decide)) h1.2⟩
    · intro x G1 h1 ws1 H1 locs1 ls1 pc1 hd1 hrt hq hrel hp1 hd2 hs1 hx1
      refine vx_ret (W.iret hx hb hr (fun t ht hW => ⟨⟨some (zI x.toInt), some (.int x), G1, h1, ws1, rfl, ⟨⟨x, rfl, rfl⟩, trivial⟩, ⟨(fun q => by cases q), hq⟩, hrel, hx1, by rw [ht]; exact hp1, hd2⟩, hs1.F ht⟩) hs1.2.2 hd1)
    · show 10 ≤ (d + 1) + 10; omega
    · show 400 ≤ 60 * (d + 1) + 400; exact Nat.le_add_left _ _
    · intro _ _ lo st G1 h1 k hzs hk1 hk2 hq H1 locs1 ws1 ls1 cs1 hR1 hP1 hD1 hS1 hE1 hl1 hst1 hn1 hkk
      have hk01 : k.1 = 0 := by show k.1 = 0; have : k.1 + 1 ≤ 1 := hk1; omega
      have hk02 : k.2 = 0 := by have : k.2 + 6 ≤ 6 := hk2; omega
      have hsum : (cs1.map fun v => v.category).sum ≤ 8 := by rw [hst1.sum]; exact hzs
      refine zthrowW (cc := cX7_led) (pc := 43) hx hb hlt (own := RX7) (cls := zNSE) (text := "no such year") (Y0 := "java/lang/RuntimeException") (r0 := ["java/lang/Exception"]) (ik := 312) (is := 314) (ic := 316) (ix := 13) (rx := prog_26_method_4_code) (sa := adK 15) (A := va_A ws s.heap.size) hown (by decide) (by decide) (by decide) (by decide +kernel) (by decide +kernel) (by decide +kernel) (by decide +kernel) (htg _ zled_w1) (htg _ zled_w2) (hZ.2.1 (7, 314, "no such year", 15) (by decide)) (fun w hw => zword_at htg hZ.2.2.2.2.1 (zat1_in w hw)) zat1_ot hZ.2.2.2.2.2.1 hZ.2.2.2.2.2.2 hS1 (by rw [hl1.1, hn1, ← hml]) dX7_led_43 dX7_led_46 dX7_led_47 dX7_led_50 dX7_led_53 ?_ (show 1 + 1 + 3 < (d + 1) + 10 by omega) ?_ (show k.1 + 1 ≤ 1 by omega) (show k.2 + 6 ≤ 6 by omega) hlocks ?_ hS1.2.2 (show k.1 + 1 ≤ 1 by omega) (show k.2 + 6 ≤ 6 by omega)
      · intro x hx9
        exact (hex x hx9).elim
      · show _ + (13 * (1 + 1 + 1) + 43) ≤ 60 * (d + 1) + 400
        omega
      · intro t hal hs1 hs2
        refine ⟨rfl, ⟨G1, h1, ws1, hq, hR1, hE1, va_P.kept hP1 (fun k q hk => hs2 q.1 (vx_lt hP1 hk)), hD1⟩, ?_⟩
        exact ⟨Nat.le_trans hS1.1 hs1, fun q z1 z2 => by rw [hs2 q (Nat.lt_of_lt_of_le z1 hS1.1)]; exact hS1.2.1 q z1 z2⟩
  have hW := HW _ (zbody zsref_id hcx)
  exact hW s.heap [] ws _ [] hR hP hD va_S.rf zext.rf hl trivial hlen ⟨Nat.zero_le _, Nat.zero_le _⟩

