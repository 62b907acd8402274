/-! the law's rows, and the claim out of one walk of the law's body -/

theorem zkLw0 : zchk 12 false code zLt0 = true := by decide +kernel
theorem zkLw1 : zchk 12 false code zLt1 = true := by decide +kernel
theorem zkLw2 : zchk 12 false code zLt2 = true := by decide +kernel
theorem zkLw3 : zchk 12 false code zLt3 = true := by decide +kernel
theorem zkLw4 : zchk 12 false code zLt4 = true := by decide +kernel
theorem zkLw5 : zchk 12 false code (zLt5.filter (fun x => x.1 != 1191)) = true := by decide +kernel
theorem zkLw6 : zchk 12 false code zLt6 = true := by decide +kernel
theorem zkLw51 : ∀ x ∈ zLt5, x.1 = 1191 → x.2 = (.invokestatic 140, 3, 220, 3, 6) := by decide +kernel
theorem zdLw : decode code 1191 = .ok (.invokestatic 140, 3) := by decide +kernel
theorem zlaw_rows {nm : String} (hnm : nm = "law") : ∀ pc j len a b z, zLr pc = some (j, len, a, b, z) → decode code pc = .ok (j, len) ∧ zLk zcl zfty zTs zTg zmi ztb zsref (zonm 12) nm pc j len a b z := by
  intro pc j len a b z h
  unfold zLr at h
  split at h
  · exact zchk_ok (fun q => absurd q (by decide)) zkLw0 pc j len a b z h
  split at h
  · exact zchk_ok (fun q => absurd q (by decide)) zkLw1 pc j len a b z h
  split at h
  · exact zchk_ok (fun q => absurd q (by decide)) zkLw2 pc j len a b z h
  split at h
  · exact zchk_ok (fun q => absurd q (by decide)) zkLw3 pc j len a b z h
  split at h
  · exact zchk_ok (fun q => absurd q (by decide)) zkLw4 pc j len a b z h
  split at h
  · by_cases e4 : pc = 1191
    · subst e4
      have h9 := zkLw51 _ (zlookup h) rfl
      simp only [Prod.mk.injEq] at h9
      obtain ⟨rfl, rfl, rfl, rfl, rfl⟩ := h9
      exact ⟨zdLw, rfl, fun q => absurd q (by decide), fun _ q => absurd rfl q, fun _ => ⟨rfl, hnm, rfl, rfl⟩⟩
    · have h1 := List.all_eq_true.mp zkLw5 (pc, j, len, a, b, z) (List.mem_filter.mpr ⟨zlookup h, by simpa using e4⟩)
      simp only [Bool.and_eq_true, decide_eq_true_eq] at h1
      exact ⟨h1.1, zLkB_ok (fun q => absurd q (by decide)) h1.2⟩
  · exact zchk_ok (fun q => absurd q (by decide)) zkLw6 pc j len a b z h
/-! THE CLAIM OUT OF ONE WALK OF THE LAW'S BODY. Your part is whole_start (and what it stands on); all else here is the same for every law, but numbers. -/
def R_law : String := "StayHouseLaw"
def lw_P (b : Addr) (xs : List Int32) (args : Array Value) (s : State) : Prop := args = #[.ref b] ∧ s.IntsAt b xs ∧ xs.length ≤ 3072 ∧ (Jvm.Cond.and given_1 narrow_1).before args s = true
def lw_Q (_ : Array Value) (s : State) (o : Outcome) (t : State) : Prop := o = .returned (some (.int 1)) ∧ Framed s o t [] 601024 7293034
def lw_Z (below : List Frame) (a : Array Value) (s : State) : State → Prop := fun t => ∃ o, t.status = .running ∧ Ended t below o ∧ lw_Q a s o t
/-- the law's own end, with 1 on the stack, nothing written that was there before, its room as the claim has it -/
theorem lw_ret {p : Program} {l : Launch} {e : Env} {s : State} {m : MethodId} {below : List Frame} {meth : Method} {c : Code} {b : Nat} (hx : p.tables.exec = Jvm.exec) (hb : c.code = code) (hr : meth.sig.returnType = ret) (hlocks : meth.locks = false) {pc : Nat} {H : Heap} {ls : Array Slot} (hdg : decode code pc = .ok (.ireturn, 1)) : W p l e room_1 s m #[Value.ref b] below meth c H [] 601024 7293034 (lw_Z below #[Value.ref b] s) (F0 m pc ls [.int 1]) := by
  intro T hT X
  obtain ⟨fs, hret, hrun, hended, hW, hframe⟩ := X.leave (v := some (.int 1)) (hlocks := hlocks) (fun h => by rw [hr] at h; cases h)
  have hmeth' : T.vm.method? m = some meth := X.method'
  refine ⟨T.setFrames fs, ?_, .returned (some (.int 1)), hrun, hended, rfl, ⟨_, rfl⟩, hW, hframe⟩
  jvm_step X.here [X.here.top, hx, hb, hdg, hmeth', hr, ret, narrow_b1]
  (try refine ⟨rfl, ?_⟩); (try refine ⟨rfl, ?_⟩)
  first | (intro acts; rw [hret _ acts rfl rfl rfl]) | rw [hret _ _ rfl rfl rfl]
  exact Steps.refl _
/-- what holds at the law's entry: the machine, the code, the tables' words (any of lw_tbl by 'hts w (by decide +kernel)'), the script of L ints xs at the cell b, what the Statement gives of the start (any of its parts by flat_of_before) -/
def lw_At (p : Program) (s : State) (m : MethodId) (meth : Method) (c : Code) (b L : Nat) (xs : Nat → Int32) : Prop :=
  p.tables.exec = Jvm.exec ∧ c.code = code ∧ meth.sig.returnType = ret ∧ c.maxLocals = 7 ∧ s.vm.findClass R_law = some m.cls ∧ (∀ w ∈ lw_tbl, w.before #[Value.ref b] s = true) ∧ va_X b L xs s s.heap ∧ b < s.heap.size ∧ meth.locks = false ∧ (Jvm.Cond.and given_1 narrow_1).before #[Value.ref b] s = true
set_option maxHeartbeats 8000000 in
set_option maxRecDepth 100000 in
/-- from the entry, for every script of at most 3072 ints, the law comes to its end with true -/
theorem whole_start {p : Program} {e : Env} {s : State} {m : MethodId} {below : List Frame} {meth : Method} {c : Code} (l : Launch) (hlt : l.stackTraces = false) {b L : Nat} {xs : Nat → Int32} (hL : L ≤ 3072) (C0 : lw_At p s m meth c b L xs) : W p l e room_1 s m #[Value.ref b] below meth c s.heap [] 0 0 (lw_Z below #[Value.ref b] s) (entryFrame m ([Value.ref b] : List Value).toArray 7) := by
  obtain ⟨hx, hb, hr, hml, hown, hts0, hX, hbl, hlocks, hgv⟩ := C0
  obtain ⟨D, cA, hK⟩ := zlaw_K hts0
  obtain ⟨adK, adV, hZ⟩ := zlaw_Z hts0 hgv
  have hts : ∀ w ∈ zTs, w.before #[Value.ref b] s = true := fun w hw => hts0 w (List.mem_filter.mp hw).1
  have hown : s.vm.findClass RL = some m.cls := hown
  have hAn : ¬ va_A [] s.heap.size b := by
    rintro (⟨k, e, h⟩ | h)
    · simp at h
    · omega
  rw [lg_entry_eq]
  have hcas : zsr adK b [] [zT 1000] [Value.ref b] := ⟨⟨b, rfl, fun q => absurd q (by decide), fun _ => rfl⟩, trivial⟩
  have hlo := zlr_entry (n := 7) hcas rfl
  have hcx : zCtx zcl zfty zTs zTg zmi ztb zsref D cA adK b (zZs adK adV) p l e room_1 s m #[Value.ref b] below meth c code 7 (601024, 7293034) (va_A [] s.heap.size) [] (lw_Z below #[Value.ref b] s) RL "law" 2 (1, L, fun j => (xs j).toInt) (fun v _ _ => v = some (zI 1)) (zRunD ztb zmt' (0 + 16)) zLr (0 + 16) := by
    refine ⟨hx, hb, hml, hown, hts, zTg_good, zCl_ok, hK, fun q h => Or.inr h, hZ, zZs_shut adK adV, zlaw_rows rfl, fun q => absurd q (by decide), ⟨Nat.le_refl _, Nat.le_refl _, by decide, by decide⟩, zsound D cA adK adV b l _, ?_, fun x G h ws H locs ls pc _ q => absurd q (by decide), fun G h ws H locs ls pc _ q => absurd q (by decide), fun _ => ⟨xs, hX, hbl, hAn, fun _ => rfl⟩, fun pc idx id H locs ls cs k1 k2 hs => zldc hx hb hown hZ pc idx id H locs ls cs k1 k2 hs, fun pc idx id H locs ls cs k1 k2 h1 h2 h3 h4 h5 h6 h7 => zstrs hx hb hml hown hts hZ (by decide) (by decide) pc idx id H locs ls cs k1 k2 h1 h2 h3 h4 h5 h6 h7, fun q1 => absurd q1 (by decide), fun _ q1 => absurd q1 (by decide), ?_⟩
    · intro x G1 h1 ws1 H1 locs1 ls1 pc1 hd1 hrt hq hrel hp1 hd2 hs1 hx1
      have hq1 : x.toInt = (1 : Int32).toInt := by
        injection hq with hq
        injection hq
      have hxx : x = 1 := Int32.toInt_inj.mp hq1
      subst hxx
      refine va_forget (fun q hq => ?_) (lw_ret hx hb hr hlocks hd1)
      rcases hs1.2.2 q hq with ⟨k, e, h⟩ | h
      · simp at h
      · exact h
    · intro _ _ pc a idx lo st G1 h1 k As1 st' hd9 ha hpop hs8 hk1 hk2 HF
      subst ha
      have hidx := zlaw_i hd9
      subst hidx
      rw [ze220] at hk1 hk2 HF
      intro H9 locs9 ws9 ls9 cs9 hR9 hP9 hD9 hS9 hE9 hl9 hst9 hn9 hkk
      obtain ⟨cas9, cs1, rfl, hcas9, hst1, hlen9⟩ := hst9.pop hpop
      have hM := zllM D cA adK adV b l hlt 15 As1 G1 h1 _ ws9 cas9 H9.size HF hR9 hcas9
      have hpre : PreS s H9 (va_Pc cas9 (zPre zcl D cA (zZs adK adV) ws9 H9.size)) cas9 := ⟨zblind (zZs_shut adK adV), zready hP9 hD9 hS9 (fun q h => Or.inr h) hK hZ (zZs_shut adK adV)⟩
      have hsum : (cs1.map fun v => v.category).sum ≤ 8 := by rw [hst1.sum]; exact hs8
      have hrun := vx_runSW (R := room_1) (As := cas9) (rest := cs1) (g := F0 m pc ls9 (cas9.reverse ++ cs1)) (locs := locs9) (cells := k.1) (slots := k.2) (e := e) (below := below) (meth := meth) (H := H9) ⟨hx, hb, hml, hown, hts⟩ hM (vx_cwSW 3 hts zlw_good rfl rfl rfl ⟨by decide, by decide, by decide +kernel⟩ ⟨by decide, by decide⟩) hpre rfl hlen9 (by rw [← hn9]; exact hl9.1) rfl (lv_room hsum) hd9 ⟨hk1, hk2⟩
      have hfr := zfree (A := va_A [] s.heap.size) hD9 hS9 (fun q h => Or.inr h)
      intro T hT X
      obtain ⟨v, st₀, t, T', L9, h0, X', hL9, e1, e2, ⟨⟨zv, cv, G2, h2, ws2, hv, hor, hq, hrel, hext, hP2, hD2⟩, hz, hkp⟩, st9⟩ := hrun T hT X
      cases hv
      rw [h0] at hz hkp
      obtain ⟨t2, a1, b1⟩ := hq T'.heap (locs9 ++ L9) ws2 ls9 _ hrel (by rw [e1]; exact hP2) (hD2.weaken (fun _ _ _ q => hfr _ q)) ⟨Nat.le_trans hS9.1 (by rw [e1]; exact hz), fun q h1 h2 => by rw [e1, hkp q (Nat.lt_of_lt_of_le h1 hS9.1) (fun z => h2 (hfr q z))]; exact hS9.2.1 q h1 h2, fun q hq => by
        rcases List.mem_append.mp hq with h | h
        · exact hS9.2.2 q h
        · exact hfr _ (hL9 q h)⟩ (hE9.tr hext) (hl9.ext hext) (zsr.app hor (hst1.ext hext)) hn9 ⟨hk1, hk2⟩ T' rfl X'
      exact ⟨t2, st9 t2 a1, b1⟩
  have HW : zW ztb (zRunD ztb zmt' (0 + 16)) zLr (601024, 7293034) 2 (1, L, fun j => (xs j).toInt) (fun v _ _ => v = some (zI 1)) 0 [some (zT 1000), none, none, none, none, none, none] [] (gl cL0) (hl cW0) (0, 0) := law_start (d := 0) hL (fun _ _ => rfl)
  have hW := HW _ (zbody zsref_id hcx)
  exact hW s.heap [] [] _ [] ⟨rfl, fun k q h => by simp at h, fun k _ => rfl⟩ (fun k q h => by simp at h) ⟨fun i j p q h => by simp at h, fun k q h => by simp at h⟩ va_S.rf zext.rf hlo trivial rfl ⟨Nat.zero_le _, Nat.zero_le _⟩

theorem lw_noTrace {l : Launch} (h : l.flags = flags0) : l.stackTraces = false := by
  unfold Launch.stackTraces
  rw [h]
  decide
set_option maxHeartbeats 4000000 in
theorem lw_walk (l : Launch) (hlt : l.stackTraces = false) (b : Addr) (xs : List Int32) : MetFree l x (headSpec (Jvm.Cond.code x code maxLocals ret :: tables_1) room_1) (lw_P b xs) (fun _ _ _ _ _ => True) lw_Q := by
  refine MetFree.of_bodyS (code := code) (maxLocals := maxLocals) (ret := ret) (by decide) ?_ ?_
  · intro args s m h hn
    obtain ⟨meth, c, h1, h2, h3, h4, h5, h6, -, -⟩ := Cond.code_spec hn (atoms_spec (ws := Jvm.Cond.code x code maxLocals ret :: tables_1) h _ List.mem_cons_self)
    exact ⟨meth, c, h1, h2, h3, h4, h5, h6⟩
  · intro p e s m args below meth c s₁ B hml0 hP _
    obtain ⟨rfl, hx, hbd, hgv⟩ := hP
    obtain ⟨scr, harrAt, hlist, hof, hsmall⟩ := hx
    obtain ⟨hcb, hkn, -, -⟩ := State.arrayAt?_spec harrAt
    have hown : s.vm.findClass R_law = some m.cls := findClass_of_methodNamed B.named
    have hts0 : ∀ c ∈ (Jvm.Cond.code x code maxLocals ret :: tables_1), c.before #[Value.ref b] s = true := atoms_spec (ws := Jvm.Cond.code x code maxLocals ret :: tables_1) B.pre
    have hts : ∀ w ∈ lw_tbl, w.before #[Value.ref b] s = true := k2_hts_sels lw_privs (fun w hw => hts0 w (List.mem_cons_of_mem _ hw)) lw_privs_ok
    have hml : c.maxLocals = 7 := B.maxLocals_eq (hts0 _ List.mem_cons_self)
    have X₀ : Stand p l e room_1 s m #[Value.ref b] below meth c s₁ [] 0 0 := Stand.of_body B
    have hh0 : s₁.heap = s.heap := by rw [B.state]; rfl
    have hsz : scr.slots.size = xs.length := by rw [← Array.length_toList, hlist, List.length_map]
    have hval : ∀ j : Nat, j < xs.length → scr.slots[j]? = some (.int (xs.getD j 0)) := fun j hj => by
      rw [← Array.getElem?_toList, hlist]
      simp [hj]
    have hbl : b < s.heap.size := (Array.getElem?_eq_some_iff.mp hcb).1
    have hX : va_X b xs.length (fun j => xs.getD j 0) s s.heap := ⟨scr, hcb, hof, hkn, hsz, hval⟩
    have K : W p l e room_1 s m #[Value.ref b] below meth c s₁.heap [] 0 0 (lw_Z below #[Value.ref b] s) (entryFrame m ([Value.ref b] : List Value).toArray 7) := by
      rw [hh0]
      exact whole_start l hlt hbd ⟨B.exec, B.bytes, B.returns, hml, hown, hts, hX, hbl, B.notSynchronized, hgv⟩
    obtain ⟨t, a1, o, b1, b2, b3⟩ := K s₁ rfl X₀
    exact ⟨t, o, a1, b1, b2, b3⟩
theorem lw_pre_spec {args : Array Value} {s : State} (h : (Jvm.Cond.and given_1 narrow_1).before args s = true) (hr : rest_1_c.before args s = true) : ∃ (b : Addr) (xs : List Int32), lw_P b xs args s := by
  have hs := flat_of_before _ h
  have hq := flat_of_before _ hr
  have hc : (Cond.count 1).before args s = true := hs _ (by decide +kernel)
  have harr : (Cond.arrayOf (.arg 0) .int).before args s = true := hs _ (by decide +kernel)
  have hle : (Cond.le (.length (.arg 0)) (.int 3072)).before args s = true := hs _ (by decide +kernel)
  have hlen : (Cond.isInt (.length (.arg 0))).before args s = true := hq _ (by decide +kernel)
  have hall : (Cond.all (.arg 0) (.isInt (.elem (.arg 0) (.index 0)))).before args s = true := hq _ (by decide +kernel)
  obtain ⟨b, xs, hb, hx⟩ := State.ints_of_pre rfl harr hlen hall
  have hsm : xs.length < 2 ^ 31 := hx.choose_spec.2.2.2
  have hev : (Term.length (.arg 0)).eval args s none [] s = some (.int xs.length.toInt32) := hx.length_eval hb
  have hv := Cond.le_ints hev (show (Term.int 3072).eval args s none [] s = some (.int 3072) from rfl)
  have hd : xs.length.toInt32 ≤ 3072 := by
    simpa [Cond.before, Cond.holds, hv] using hle
  have hN : xs.length ≤ 3072 := (Int32.ofNat_le_ofNat hsm (by decide)).mp (show Int32.ofNat xs.length ≤ Int32.ofNat 3072 from hd)
  exact ⟨b, xs, Cond.one_arg hc (show args[0]? = some (.ref b) from hb), hx, hN, h⟩
theorem lw_comes (l : Launch) (hlt : l.stackTraces = false) : Comes l x (Jvm.Cond.code x code maxLocals ret :: tables_1) room_1 (fun tb e args s => Calls_1 tb e args s ∧ rest_1 tb e args s ∧ Pre_1 tb e args s)
    (fun _ _ args s o t => lw_Q args s o t) := by
  intro p e ha hc hk s m args below hf hfit hheap happ hpre
  obtain ⟨b, xs, hP⟩ := lw_pre_spec hpre.2.2 hpre.2.1
  obtain ⟨k, o, h1, h2, h3, hQ⟩ := lw_walk l hlt b xs p e ha hc hk s m args below hf ((Spec.applies_iff_loose hf).mp happ).1 hP trivial
  exact ⟨k, o, h1, h2, h3, hQ⟩
theorem lw_frame {s t : State} {o : Outcome} {args : Array Value} (h : Framed s o t [] 601024 7293034) :
    Framed s o t (fieldLocs frame_1_writes args s ++ arrayLocs frame_1_arrays args s ++ staticLocs frame_1_statics s) 601024 7293034 := h
theorem lw_limb (L : Cond) (hL : ∀ (args : Array Value) (s t : State), L.after args s (.returned (some (.int 1))) t = true) :
    ArmFor flags0 classFile x code maxLocals ret World_1 tables_1 room_1 Calls_1 rest_1 Pre_1
      (fun tb e a s o t => postC L tb e a s o t ∧ Framed s o t (fieldLocs frame_1_writes a s ++ arrayLocs frame_1_arrays a s ++ staticLocs frame_1_statics s) 601024 7293034) := by
  intro l hfl _ _ p e ha hc hk s m args below hf hfit hheap happ hpre
  obtain ⟨k, o, h1, h2, h3, rfl, hF⟩ := lw_comes l (lw_noTrace hfl) p e ha hc hk s m args below hf hfit hheap happ hpre
  exact ⟨k, _, h1, h2, h3, hL args s _, lw_frame hF⟩
theorem i_vc : Claimed_1_1 ∧ Claimed_1_2 := ⟨lw_limb limb_1_1 (fun args s t => by simp [limb_1_1, Cond.after, Cond.holds, Cond.value]), lw_limb limb_1_2 (fun args s t => Cond.after_iff.mpr (by
  first | (rw [show limb_1_2 = Cond.eq .result (.int 1) from rfl, Cond.eq_ints (x := 1) (y := 1) rfl rfl]; simp; done) | (simp [limb_1_2, Cond.value, Term.eval]; done)))⟩

