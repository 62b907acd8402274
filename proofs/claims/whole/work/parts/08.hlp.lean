section HL
variable {cl : List vw_C} {fty : Nat → Nat → FieldType} {Ts Tg : List Cond} {mi : zMi} {tb : zTb} {sref : String → Nat → Nat → Prop} {D : va_G} {cA : Nat → ClassId} {adK : Nat → Nat} {sa : Nat} {ZX : (Nat → Prop) → State → Heap → Prop} {p : Program} {l : Launch} {e : Env} {R : Room} {s : State} {m : MethodId} {args : Array Value} {below : List Frame} {meth : Method} {c : Code} {cc : ByteArray} {nL : Nat} {bud : zK} {A : Nat → Prop} {ws0 : va_W} {QQ : State → Prop} {own nm : String} {Q : zQ} {Rn : zRun} {cd : Nat → Option zIns} {d : Nat}
theorem zaald {H : Heap} {locs : List Loc} {cells slots : Nat} {pc : Nat} {ls : Array Slot} {rest : List Value} {a : Nat} {tys : List (ClassId × FieldType)} {ws : va_W} (hexec : p.tables.exec = Jvm.exec) (hb : c.code = cc) (hK : va_K D cl tys s) (hP : va_P D cl ws H) (q0 t0 : Nat) {cB : ClassId} {ty : FieldType} {n : Nat} {f : Nat → Option Nat} (ha : ws[q0]? = some (a, .inl (cB, n, .inr (.inr (.inr (.inr f)))))) (ht : tys[t0]? = some (cB, ty)) (hk : refKind ty = true) {i : Int32} (hin : vp_in i n) (hdg : decode cc pc = .ok (.aaload, 1))
    (kk : W p l e R s m args below meth c H locs cells slots QQ (F0 m (pc + 1) ls (va_rf (f i.toNatClampNeg) :: rest))) : W p l e R s m args below meth c H locs cells slots QQ (F0 m pc ls (.int i :: .ref a :: rest)) := by
  have hlt : i.toNatClampNeg < n := Nat.not_le.mp fun q => hin (Or.inr q)
  exact W.aald (v := va_rf (f i.toNatClampNeg)) (ty := ty) hexec hb (hP q0 _ ha) ((hK.2 t0 _ ht).1 n (fun j => va_rf (f j))) hk (fun q => by cases q) (by show ¬ (i < 0 ∨ (arrV _ _ _).slots.size ≤ _); rw [arrV_size]; exact hin) (by show (arrV _ _ _).slots[_]? = _; rw [arrV_read _ _ hlt]) rfl rfl hdg kk
theorem zfr_new {ws : va_W} {ty : FieldType} (h : zfc ty ≠ 9) : zfr ws (zfc ty) none 0 (defaultValue ty) := by
  cases ty <;> simp [zfc] at h <;> first
    | exact ⟨rfl, fun q hq => by cases hq⟩
    | exact ⟨_, rfl, rfl⟩
theorem zroomF {tb : zTb} {a d Rf : Nat} (h : d + 11 ≤ Rf) : (zrm tb d a).frames + 1 ≤ Rf := h
set_option maxRecDepth 20000 in
theorem zroomN {d ml Rl : Nat} (h : 60 * (d + 1) + 400 ≤ Rl) (h2 : ml ≤ 40) : 8 + (ml + 11) + (60 * d + 400) ≤ Rl := by omega
theorem zroomL {tb : zTb} {a d ml Rl : Nat} (h : 60 * (d + 1) + 400 ≤ Rl) (h2 : ml ≤ 40) : 8 + (ml + 11) + (zrm tb d a).locals ≤ Rl := zroomN h h2
theorem zpop_spec : ∀ {n : Nat} {acc st As st' : List zV}, zpop n acc st = some (As, st') → ∃ t, st = t ++ st' ∧ As = t.reverse ++ acc ∧ t.length = n
  | 0, acc, st, As, st', h => by
    simp [zpop] at h
    obtain ⟨rfl, rfl⟩ := h
    exact ⟨[], rfl, rfl, rfl⟩
  | n + 1, acc, [], As, st', h => by simp [zpop] at h
  | n + 1, acc, v :: st, As, st', h => by
    simp only [zpop] at h
    obtain ⟨t, h1, h2, h3⟩ := zpop_spec h
    exact ⟨v :: t, by rw [h1]; rfl, by rw [h2]; simp, by simp [h3]⟩
theorem zsr.split {ws : va_W} : ∀ {t st' : List zV} {cs : List Value}, zsr adK sa ws (t ++ st') cs → ∃ ct cs', cs = ct ++ cs' ∧ zsr adK sa ws t ct ∧ zsr adK sa ws st' cs' ∧ ct.length = t.length
  | [], st', cs, h => ⟨[], cs, rfl, trivial, h, rfl⟩
  | v :: t, st', cs, h => by
    obtain ⟨cv, cs1, rfl, h1, h2⟩ := zsr.cons h
    obtain ⟨ct, cs', rfl, h3, h4, h5⟩ := zsr.split h2
    exact ⟨cv :: ct, cs', rfl, ⟨h1, h3⟩, h4, by simp [h5]⟩
theorem zsr.rev {ws : va_W} : ∀ {t : List zV} {ct : List Value}, zsr adK sa ws t ct → zsr adK sa ws t.reverse ct.reverse
  | [], [], _ => trivial
  | v :: t, c :: ct, h => by
    rw [List.reverse_cons, List.reverse_cons]
    exact (zsr.rev h.2).app ⟨h.1, trivial⟩
  | [], _ :: _, h => h.elim
  | _ :: _, [], h => h.elim
theorem zsr.pop {ws : va_W} {n : Nat} {st As st' : List zV} {cs : List Value} (h : zpop n [] st = some (As, st')) (hs : zsr adK sa ws st cs) : ∃ cas cs', cs = cas.reverse ++ cs' ∧ zsr adK sa ws As cas ∧ zsr adK sa ws st' cs' ∧ cas.length = n := by
  obtain ⟨t, rfl, h2, h3⟩ := zpop_spec h
  obtain ⟨ct, cs', rfl, h4, h5, h6⟩ := hs.split
  refine ⟨ct.reverse, cs', by rw [List.reverse_reverse], ?_, h5, by rw [List.length_reverse, h6, h3]⟩
  rw [h2, List.append_nil]
  exact h4.rev
/-- behind a call -/
theorem zcallW {H : Heap} {locs : List Loc} {k1 k2 mc ms pc : Nat} {ls : Array Slot} {st0 rest : List Value} {Q' : zQ} {ws : va_W} {A' : Nat → Prop} {a' : Array Value} (hr : va_Run p l e R s m args below meth c H locs k1 k2 mc ms (F0 m pc ls st0) rest (zQc cl fty D cA adK sa Q' ws A' a') A') (hS : va_S A s.heap H locs) (hA' : ∀ q, A' q → A q)
    (kk : ∀ (v : Option zV) (cv : Option Value) (G : zG) (h : zM) (ws' : va_W) (H1 : Heap) (locs1 : List Loc), zor' adK sa ws' v cv → Q' v G h → zRel cl fty cA G h ws' → zext ws ws' → va_P D cl ws' H1 → va_D A ws' → va_S A s.heap H1 locs1 → W p l e R s m args below meth c H1 locs1 (k1 + mc) (k2 + ms) QQ (F0 m (pc + 3) ls (cv.toList ++ rest))) : W p l e R s m args below meth c H locs k1 k2 QQ (F0 m pc ls st0) := by
  intro T hT X
  obtain ⟨v, st₀, t, T', L, h0, X', hL, e1, e2, ⟨⟨zv, cv, G, h, ws', hv, hor, hq, hrel, hext, hP1, hD1⟩, hz, hk⟩, st⟩ := hr T hT X
  cases hv
  rw [h0] at hz hk
  obtain ⟨t2, a1, b1⟩ := kk zv v G h ws' T'.heap (locs ++ L) hor hq hrel hext (by rw [e1]; exact hP1) (hD1.weaken (fun _ _ _ q => hA' _ q))
    ⟨Nat.le_trans hS.1 (by rw [e1]; exact hz), fun q h1 h2 => by rw [e1, hk q (Nat.lt_of_lt_of_le h1 hS.1) (fun z => h2 (hA' q z))]; exact hS.2.1 q h1 h2, fun q hq => by
      rcases List.mem_append.mp hq with h | h
      · exact hS.2.2 q h
      · exact hA' _ (hL q h)⟩ T' rfl X'
  exact ⟨t2, st t2 a1, b1⟩
theorem zfree {ws : va_W} {H : Heap} {locs : List Loc} (hD : va_D A ws) (hS : va_S A s.heap H locs) (hA : ∀ q, s.heap.size ≤ q → A q) : ∀ q, va_A ws H.size q → A q := by
  intro q h
  rcases h with ⟨k, e, h⟩ | h
  · exact hD.2 k _ h
  · exact hA q (Nat.le_trans hS.1 h)
theorem zblind {ws : va_W} {sz : Nat} {cas : List Value} (hZX : zZX ZX) : FrameBlind (va_Pc cas (zPre cl D cA ZX ws sz)) := by
  intro a U g mk q
  obtain ⟨q0, q1, q2, q3, q4, q5⟩ := q
  exact ⟨q0, q1, q2, va_K.moved (u := U) (U := U.calling g mk a) (Vm.Alike.refl U.vm) q3, hZX _ _ U (U.calling g mk a) U.heap U.heap q4 (State.WarmedH.refl U) (fun _ _ _ => rfl) (fun _ h => h), q5⟩
theorem zready {ws : va_W} {H : Heap} {locs : List Loc} {cas : List Value} (hP : va_P D cl ws H) (hD : va_D A ws) (hS : va_S A s.heap H locs) (hA : ∀ q, s.heap.size ≤ q → A q) (hK : va_K D cl (ztys cA) s) (hZ : ZX A s s.heap) (hZX : zZX ZX) : ∀ U : State, U.heap = H → s.WarmedH U.vm → va_Pc cas (zPre cl D cA ZX ws H.size) cas.toArray U := by
  intro U hU hW
  exact ⟨rfl, by rw [hU], by rw [hU]; exact hP, va_K.moved hW.alike hK, hZX A _ s U s.heap U.heap hZ hW (fun a h1 h2 => by rw [hU]; exact hS.2.1 a h1 h2) (zfree hD hS hA), hD.weaken (fun _ _ _ _ => trivial)⟩
theorem zgoodC {y : MethodName} {by' : ByteArray} {ml : Nat} {rt' : Option FieldType} (hgood : ∀ w ∈ Tg, w ∈ Ts ∧ ((w.onTables && w.keeps) = true ∨ ∃ ty, w = .arrayClass ty)) (h : Cond.code y by' ml rt' ∈ Tg) : GoodIn Ts (Cond.code y by' ml rt' :: Tg) := fun w hw => (List.mem_cons.mp hw).elim (fun e => by rw [e]; exact hgood _ h) (fun q => hgood _ q)
set_option maxHeartbeats 4000000 in
theorem zinvI (hx : p.tables.exec = Jvm.exec) (hb : c.code = cc) (hml : c.maxLocals = nL) (hown : s.vm.findClass own = some m.cls) (hts : ∀ w ∈ Ts, w.before args s = true) (hgood : ∀ w ∈ Tg, w ∈ Ts ∧ ((w.onTables && w.keeps) = true ∨ ∃ ty, w = .arrayClass ty)) (hK : va_K D cl (ztys cA) s) (hA : ∀ q, s.heap.size ≤ q → A q) (hZ : ZX A s s.heap) (hZX : zZX ZX) (hR1 : bud.1 ≤ R.cells) (hR2 : bud.2 ≤ R.slots) (hR3 : d + 11 ≤ R.frames) (hR4 : 60 * (d + 1) + 400 ≤ R.locals) (hcal : zCal cl fty Tg mi tb D cA adK sa ZX l Rn d)
    {pc idx len a b : Nat} {z : Int} {lo : zLo} {st : List zV} {G : zG} {h : zM} {k : zK} (hdg : decode cc pc = .ok (.invokespecial idx, len)) (hlk : zLk cl fty Ts Tg mi tb sref own nm pc (.invokespecial idx) len a b z)
    (HF : if z = 9 then ∃ r st', st = zR (some r) :: st' ∧ zsum st' ≤ 8 ∧ zSt cl fty D cA adK sa p l e R s m args below meth c nL bud A ws0 QQ (pc + len) lo st' G h k else
        ∃ As r st', zpop b [] st = some (As, zR (some r) :: st') ∧ zsum st' ≤ 8 ∧ G.2.1 r = tb.2.2.2 a ∧ k.1 + (tb.2.2.1 a).1 ≤ bud.1 ∧ k.2 + (tb.2.2.1 a).2 ≤ bud.2 ∧ Rn a (zR (some r) :: As) G h (fun v G' h' => v = none ∧ zSt cl fty D cA adK sa p l e R s m args below meth c nL bud A ws0 QQ (pc + len) lo st' G' h' (k.1 + (tb.2.2.1 a).1, k.2 + (tb.2.2.1 a).2))) :
    zSt cl fty D cA adK sa p l e R s m args below meth c nL bud A ws0 QQ pc lo st G h k := by
  obtain ⟨rfl, g1, g2⟩ := hlk
  intro H locs ws ls cs hR hP hD hS hE hl hst hn hk
  split at HF
  · rename_i e1
    obtain ⟨w1, w2, w3⟩ := g1 e1
    obtain ⟨r, st', rfl, h1, HF⟩ := HF
    obtain ⟨cs2, rfl, hq, hst2⟩ := hst.ref
    refine W.objInit hx hb hown (hts _ w1) (hts _ w2) (hts _ w3) rfl (by rw [hml, ← hn]; exact hl.1) rfl hdg (by omega) ?_ ?_
    · show 2 * 0 + _ + 12 ≤ R.locals
      rw [hst2.sum]
      omega
    · exact HF H locs ws ls _ hR hP hD hS hE hl hst2 hn hk
  · rename_i e1
    obtain ⟨y, by', ml, rt', w1, w2, w3, w4, w5, ⟨w6, w7, w8⟩, w9⟩ := g2 e1
    subst w8
    obtain ⟨As, r, st', h1, h2, h3, h4, h5, HF⟩ := HF
    obtain ⟨cas, cs1, rfl, hcas, hst1, hlen⟩ := hst.pop h1
    obtain ⟨cs2, rfl, hq, hst2⟩ := hst1.ref
    have hM := hcal _ _ _ _ _ _ _ _ _ ws (.ref (zadr ws r) :: cas) H.size HF w1 hR ⟨⟨rfl, fun q hq' => by cases hq'; exact hq⟩, hcas⟩
    have hpre : PreS s H (va_Pc (.ref (zadr ws r) :: cas) (zPre cl D cA ZX ws H.size)) (.ref (zadr ws r) :: cas) := ⟨zblind hZX, zready hP hD hS hA hK hZ hZX⟩
    have hroom : (zrm tb d a).frames + 1 ≤ R.frames ∧ 8 + (ml + 11) + (zrm tb d a).locals ≤ R.locals := ⟨zroomF hR3, zroomL hR4 w5⟩
    have hsum : (cs2.map fun v => v.category).sum ≤ 8 := by rw [hst2.sum]; exact h2
    have kk : ∀ (v : Option zV) (cv : Option Value) (G1 : zG) (h1 : zM) (ws' : va_W) (H1 : Heap) (locs1 : List Loc), zor' adK sa ws' v cv → (v = none ∧ zSt cl fty D cA adK sa p l e R s m args below meth c nL bud A ws0 QQ (pc + 3) lo st' G1 h1 (k.1 + (tb.2.2.1 a).1, k.2 + (tb.2.2.1 a).2)) → zRel cl fty cA G1 h1 ws' → zext ws ws' → va_P D cl ws' H1 → va_D A ws' → va_S A s.heap H1 locs1 → W p l e R s m args below meth c H1 locs1 (k.1 + (tb.2.2.1 a).1) (k.2 + (tb.2.2.1 a).2) QQ (F0 m (pc + 3) ls (cv.toList ++ cs2)) := by
      intro v cv G1 h1 ws' H1 locs1 hor hq1 hr1 he1 hp1 hd1 hs1
      obtain ⟨rfl, hq1⟩ := hq1
      have hcv : cv.toList = [] := zsr.nil hor
      rw [hcv]
      exact hq1 H1 locs1 ws' ls cs2 hr1 hp1 hd1 hs1 (hE.tr he1) (hl.ext he1) (hst2.ext he1) hn ⟨h4, h5⟩
    rcases w9 with w9 | ⟨host, w9⟩
    · exact zcallW (va_runI (As := cas) (rest := cs2) ⟨hx, hb, hml, hown, hts⟩ hM ⟨callB_of b hts (zgoodC hgood w2) rfl rfl rfl (hts _ w3) (hts _ w9) w4 hroom, w7, hts _ w6⟩ hpre rfl hlen (by rw [← hn]; exact hl.1) rfl (lv_room hsum) hdg ⟨by omega, by omega⟩) hS (zfree hD hS hA) kk
    · exact zcallW (va_runIN (As := cas) (rest := cs2) (host := host) ⟨hx, hb, hml, hown, hts⟩ hM ⟨va_cnB b hts (zgoodC hgood w2) rfl rfl rfl (va_Nw.of rfl (hts _ w9)) (hts _ w3) w4 hroom, w7, hts _ w6⟩ hpre rfl hlen (by rw [← hn]; exact hl.1) rfl (lv_room hsum) hdg ⟨by omega, by omega⟩) hS (zfree hD hS hA) kk
set_option maxHeartbeats 4000000 in
theorem zinvV (hx : p.tables.exec = Jvm.exec) (hb : c.code = cc) (hml : c.maxLocals = nL) (hown : s.vm.findClass own = some m.cls) (hts : ∀ w ∈ Ts, w.before args s = true) (hgood : ∀ w ∈ Tg, w ∈ Ts ∧ ((w.onTables && w.keeps) = true ∨ ∃ ty, w = .arrayClass ty)) (hcl : zClOk cl fty Ts tb) (hK : va_K D cl (ztys cA) s) (hA : ∀ q, s.heap.size ≤ q → A q) (hZ : ZX A s s.heap) (hZX : zZX ZX) (hR1 : bud.1 ≤ R.cells) (hR2 : bud.2 ≤ R.slots) (hR3 : d + 11 ≤ R.frames) (hR4 : 60 * (d + 1) + 400 ≤ R.locals) (hcal : zCal cl fty Tg mi tb D cA adK sa ZX l Rn d)
    (hStr : ∀ (pc idx id : Nat) (H : Heap) (locs : List Loc) (ls : Array Slot) (cs : List Value) (k1 k2 : Nat), id < 16 → va_S A s.heap H locs → ls.size = nL → (cs.map fun v => v.category).sum ≤ 8 → k1 ≤ R.cells → k2 ≤ R.slots → decode cc pc = .ok (.invokevirtual idx, 3) →
      (Cond.methodLink own idx ⟨"java/lang/String", "length", "()I"⟩ ∈ Ts → (∀ x : Int32, x.toInt = (tb.2.1 id).length → W p l e R s m args below meth c H locs k1 k2 QQ (F0 m (pc + 3) ls (.int x :: cs))) → W p l e R s m args below meth c H locs k1 k2 QQ (F0 m pc ls (.ref (adK id) :: cs)))
      ∧ (Cond.methodLink own idx ⟨"java/lang/String", "charAt", "(I)C"⟩ ∈ Ts → ∀ i : Int32, 0 ≤ i.toInt → i.toInt < (tb.2.1 id).length → (∀ x : Int32, x.toInt = (tb.2.1 id).getD i.toInt.toNat 0 → W p l e R s m args below meth c H locs k1 k2 QQ (F0 m (pc + 3) ls (.int x :: cs))) → W p l e R s m args below meth c H locs k1 k2 QQ (F0 m pc ls (.int i :: .ref (adK id) :: cs))))
    (hCat : own = "StayHouseLaw" → nm = "led" → ∀ (a idx : Nat) (lo : zLo) (st : List zV) (G : zG) (h : zM) (k : zK) (As : List zV) (r : Nat) (st' : List zV), decode cc 4 = .ok (.invokevirtual idx, 3) → a = 92 → zpop 1 [] st = some (As, zR (some r) :: st') → zsum st' ≤ 8 → G.2.1 r = 7 → k.1 + 1 ≤ bud.1 → k.2 + 6 ≤ bud.2 → Rn a (zR (some r) :: As) G h (fun v G' h' => if v = some (zT 2000) then zSt cl fty D cA adK sa p l e R s m args below meth c nL bud A ws0 QQ 12 lo [zT 2000] G' h' (k.1 + 1, k.2 + 6) else zSt cl fty D cA adK sa p l e R s m args below meth c nL bud A ws0 QQ (4 + 3) lo (v.toList ++ st') G' h' (k.1 + 1, k.2 + 6)) → zSt cl fty D cA adK sa p l e R s m args below meth c nL bud A ws0 QQ 4 lo st G h k)
    {pc idx len a b : Nat} {z : Int} {lo : zLo} {st : List zV} {G : zG} {h : zM} {k : zK} (hdg : decode cc pc = .ok (.invokevirtual idx, len)) (hlk : zLk cl fty Ts Tg mi tb sref own nm pc (.invokevirtual idx) len a b z)
    (HF : if z = 6 then ∃ As r st', zpop b [] st = some (As, zR (some r) :: st') ∧ zsum st' ≤ 8 ∧ G.2.1 r = 7 ∧ k.1 + 1 ≤ bud.1 ∧ k.2 + 6 ≤ bud.2 ∧ Rn a (zR (some r) :: As) G h (fun v G' h' => if v = some (zT 2000) then zSt cl fty D cA adK sa p l e R s m args below meth c nL bud A ws0 QQ 12 lo [zT 2000] G' h' (k.1 + 1, k.2 + 6) else zSt cl fty D cA adK sa p l e R s m args below meth c nL bud A ws0 QQ (pc + len) lo (v.toList ++ st') G' h' (k.1 + 1, k.2 + 6)) else if z = 7 then ∃ s' st', st = zT s' :: st' ∧ s' < 16 ∧ zsum st' ≤ 8 ∧ zSt cl fty D cA adK sa p l e R s m args below meth c nL bud A ws0 QQ (pc + len) lo (zI ((tb.2.1 s').length) :: st') G h k else if z = 8 then ∃ s' i st', st = zI i :: zT s' :: st' ∧ s' < 16 ∧ zsum st' ≤ 8 ∧ (0 ≤ i ∧ i < (tb.2.1 s').length) ∧ zSt cl fty D cA adK sa p l e R s m args below meth c nL bud A ws0 QQ (pc + len) lo (zI ((tb.2.1 s').getD i.toNat 0) :: st') G h k else
        ∃ As r st', zpop b [] st = some (As, zR (some r) :: st') ∧ zsum st' ≤ 8 ∧ G.2.1 r = tb.2.2.2 a ∧ k.1 + (tb.2.2.1 a).1 ≤ bud.1 ∧ k.2 + (tb.2.2.1 a).2 ≤ bud.2 ∧ Rn a (zR (some r) :: As) G h (fun v G' h' => zSt cl fty D cA adK sa p l e R s m args below meth c nL bud A ws0 QQ (pc + len) lo (v.toList ++ st') G' h' (k.1 + (tb.2.2.1 a).1, k.2 + (tb.2.2.1 a).2))) :
    zSt cl fty D cA adK sa p l e R s m args below meth c nL bud A ws0 QQ pc lo st G h k := by
  obtain ⟨rfl, g0, g1, g2, g3⟩ := hlk
  by_cases e0 : z = 6
  · obtain ⟨w1, w2, rfl, rfl, w5⟩ := g0 e0
    rw [if_pos e0] at HF
    obtain ⟨As, r, st', h1, h2, h3, h4, h5, h6⟩ := HF
    exact hCat w1 w2 a idx lo st G h k As r st' hdg w5 h1 h2 h3 h4 h5 h6
  rw [if_neg e0] at HF
  intro H locs ws ls cs hR hP hD hS hE hl hst hn hk
  split at HF
  · rename_i e1
    obtain ⟨s', st', rfl, h1, h2, HF⟩ := HF
    obtain ⟨a9, cs2, rfl, q1, q2, hst2⟩ := hst.str
    obtain rfl := q1 h1
    exact (hStr pc idx s' H locs ls cs2 k.1 k.2 h1 hS (by rw [← hn]; exact hl.1) (by rw [hst2.sum]; exact h2) (by omega) (by omega) hdg).1 (g1 e1) (fun x hxl => HF H locs ws ls _ hR hP hD hS hE hl ⟨⟨x, rfl, hxl⟩, hst2⟩ hn hk)
  · rename_i e1
    split at HF
    · rename_i e2
      obtain ⟨s', i, st', rfl, h1, h2, h3, HF⟩ := HF
      obtain ⟨i9, cs1, rfl, h4, hst1⟩ := hst.int
      obtain ⟨a9, cs2, rfl, q1, q2, hst2⟩ := hst1.str
      obtain rfl := q1 h1
      exact (hStr pc idx s' H locs ls cs2 k.1 k.2 h1 hS (by rw [← hn]; exact hl.1) (by rw [hst2.sum]; exact h2) (by omega) (by omega) hdg).2 (g2 e2) i9 (by rw [h4]; exact h3.1) (by rw [h4]; exact h3.2) (fun x hxl => HF H locs ws ls _ hR hP hD hS hE hl ⟨⟨x, rfl, by rw [hxl, h4]⟩, hst2⟩ hn hk)
    · rename_i e2
      obtain ⟨y, by', ml, rt', w1, w2, w3, w4, w5, ⟨w6, w7, T8, N8, w8⟩, w9⟩ := g3 e0 e1 e2
      obtain ⟨As, r, st', h1, h2, h3, h4, h5, HF⟩ := HF
      obtain ⟨cas, cs1, rfl, hcas, hst1, hlen⟩ := hst.pop h1
      obtain ⟨cs2, rfl, hq, hst2⟩ := hst1.ref
      obtain ⟨hc1, -⟩ := hcl _ _ _ _ w8
      obtain ⟨e9, he, hce⟩ := hR.at (k := r) (by omega)
      have hrecv : ∃ cell : Cell, H[zadr ws r]? = some cell ∧ cell.vm.isStatics = false ∧ s.vm.findClass y.cls = some cell.cls := by
        rcases hce with ⟨k0, fs, C8, T9, rfl, -⟩ | ⟨k0, -⟩ | ⟨k0, -⟩ | ⟨k0, -⟩
        · rw [h3] at he
          exact va_recv hK hP w8 he
        · omega
        · omega
        · omega
      have hM := hcal _ _ _ _ _ _ _ _ _ ws (.ref (zadr ws r) :: cas) H.size HF w1 hR ⟨⟨rfl, fun q hq' => by cases hq'; exact hq⟩, hcas⟩
      have hpre : PreV s H y.cls (zadr ws r) (va_Pc (.ref (zadr ws r) :: cas) (zPre cl D cA ZX ws H.size)) cas := ⟨zblind hZX, hrecv, zready hP hD hS hA hK hZ hZX⟩
      have hroom : (zrm tb d a).frames + 1 ≤ R.frames ∧ 8 + (ml + 11) + (zrm tb d a).locals ≤ R.locals := ⟨zroomF hR3, zroomL hR4 w5⟩
      have hsum : (cs2.map fun v => v.category).sum ≤ 8 := by rw [hst2.sum]; exact h2
      have kk : ∀ (v : Option zV) (cv : Option Value) (G1 : zG) (h1 : zM) (ws' : va_W) (H1 : Heap) (locs1 : List Loc), zor' adK sa ws' v cv → zSt cl fty D cA adK sa p l e R s m args below meth c nL bud A ws0 QQ (pc + 3) lo (v.toList ++ st') G1 h1 (k.1 + (tb.2.2.1 a).1, k.2 + (tb.2.2.1 a).2) → zRel cl fty cA G1 h1 ws' → zext ws ws' → va_P D cl ws' H1 → va_D A ws' → va_S A s.heap H1 locs1 → W p l e R s m args below meth c H1 locs1 (k.1 + (tb.2.2.1 a).1) (k.2 + (tb.2.2.1 a).2) QQ (F0 m (pc + 3) ls (cv.toList ++ cs2)) := by
        intro v cv G1 h1 ws' H1 locs1 hor hq1 hr1 he1 hp1 hd1 hs1
        exact hq1 H1 locs1 ws' ls _ hr1 hp1 hd1 hs1 (hE.tr he1) (hl.ext he1) (zsr.app hor (hst2.ext he1)) hn ⟨h4, h5⟩
      rcases w9 with w9 | ⟨host, w9⟩
      · exact zcallW (va_runV (As := cas) (rest := cs2) ⟨hx, hb, hml, hown, hts⟩ hM ⟨callB_of b hts (zgoodC hgood w2) rfl rfl rfl (hts _ w3) (hts _ w9) w4 hroom, hts _ w6, hts _ w7⟩ hpre rfl hlen (by rw [← hn]; exact hl.1) rfl (lv_room hsum) hdg ⟨by omega, by omega⟩) hS (zfree hD hS hA) kk
      · exact zcallW (va_runVN (As := cas) (rest := cs2) (host := host) ⟨hx, hb, hml, hown, hts⟩ hM ⟨va_cnB b hts (zgoodC hgood w2) rfl rfl rfl (va_Nw.of rfl (hts _ w9)) (hts _ w3) w4 hroom, hts _ w6, hts _ w7⟩ hpre rfl hlen (by rw [← hn]; exact hl.1) rfl (lv_room hsum) hdg ⟨by omega, by omega⟩) hS (zfree hD hS hA) kk
set_option maxHeartbeats 4000000 in
theorem zinvS (hx : p.tables.exec = Jvm.exec) (hb : c.code = cc) (hml : c.maxLocals = nL) (hown : s.vm.findClass own = some m.cls) (hts : ∀ w ∈ Ts, w.before args s = true) (hgood : ∀ w ∈ Tg, w ∈ Ts ∧ ((w.onTables && w.keeps) = true ∨ ∃ ty, w = .arrayClass ty)) (hK : va_K D cl (ztys cA) s) (hA : ∀ q, s.heap.size ≤ q → A q) (hZ : ZX A s s.heap) (hZX : zZX ZX) (hR1 : bud.1 ≤ R.cells) (hR2 : bud.2 ≤ R.slots) (hR3 : d + 11 ≤ R.frames) (hR4 : 60 * (d + 1) + 400 ≤ R.locals) (hcal : zCal cl fty Tg mi tb D cA adK sa ZX l Rn d)
    (hLed : own = "StayHouseLaw" → nm = "law" → ∀ (pc a idx : Nat) (lo : zLo) (st : List zV) (G : zG) (h : zM) (k : zK) (As : List zV) (st' : List zV), decode cc pc = .ok (.invokestatic idx, 3) → a = 220 → zpop 3 [] st = some (As, st') → zsum st' ≤ 8 → k.1 + (tb.2.2.1 a).1 ≤ bud.1 → k.2 + (tb.2.2.1 a).2 ≤ bud.2 → Rn a As G h (fun v G' h' => zSt cl fty D cA adK sa p l e R s m args below meth c nL bud A ws0 QQ (pc + 3) lo (v.toList ++ st') G' h' (k.1 + (tb.2.2.1 a).1, k.2 + (tb.2.2.1 a).2)) → zSt cl fty D cA adK sa p l e R s m args below meth c nL bud A ws0 QQ pc lo st G h k)
    {pc idx len a b : Nat} {z : Int} {lo : zLo} {st : List zV} {G : zG} {h : zM} {k : zK} (hdg : decode cc pc = .ok (.invokestatic idx, len)) (hlk : zLk cl fty Ts Tg mi tb sref own nm pc (.invokestatic idx) len a b z)
    (HF : if z = 5 then ∃ n dp r2 sp r1 st', st = zI n :: zI dp :: zR (some r2) :: zI sp :: zR (some r1) :: st' ∧ zsum st' ≤ 8 ∧ (b = 10 ∨ b = 11) ∧ G.2.1 r1 = b ∧ G.2.1 r2 = b ∧ 0 ≤ sp ∧ 0 ≤ dp ∧ 0 ≤ n ∧ sp + n ≤ G.2.2.1 r1 ∧ dp + n ≤ G.2.2.1 r2 ∧ zSt cl fty D cA adK sa p l e R s m args below meth c nL bud A ws0 QQ (pc + len) lo st' G (zcp h r1 sp.toNat r2 dp.toNat n.toNat) k else
        ∃ As st', zpop b [] st = some (As, st') ∧ zsum st' ≤ 8 ∧ k.1 + (tb.2.2.1 a).1 ≤ bud.1 ∧ k.2 + (tb.2.2.1 a).2 ≤ bud.2 ∧ Rn a As G h (fun v G' h' => zSt cl fty D cA adK sa p l e R s m args below meth c nL bud A ws0 QQ (pc + len) lo (v.toList ++ st') G' h' (k.1 + (tb.2.2.1 a).1, k.2 + (tb.2.2.1 a).2))) :
    zSt cl fty D cA adK sa p l e R s m args below meth c nL bud A ws0 QQ pc lo st G h k := by
  obtain ⟨rfl, g1, g2, g6⟩ := hlk
  by_cases e6 : z = 6
  · obtain ⟨w1, w2, rfl, w5⟩ := g6 e6
    rw [if_neg (by omega)] at HF
    obtain ⟨As, st', h1, h2, h4, h5, h6⟩ := HF
    exact hLed w1 w2 pc a idx lo st G h k As st' hdg w5 h1 h2 h4 h5 h6
  intro H locs ws ls cs hR hP hD hS hE hl hst hn hk
  split at HF
  · rename_i e1
    obtain ⟨w1, w2, w3, w4⟩ := g1 e1
    obtain ⟨n, dp, r2, sp, r1, st', rfl, h1, h2, h3, h4, h5, h6, h7, h8, h9, HF⟩ := HF
    obtain ⟨n9, csa, rfl, q1, hst⟩ := hst.int
    obtain ⟨dp9, csb, rfl, q2, hst⟩ := hst.int
    obtain ⟨csc, rfl, hq2, hst⟩ := hst.ref
    obtain ⟨sp9, csd, rfl, q3, hst⟩ := hst.int
    obtain ⟨cs2, rfl, hq1, hst2⟩ := hst.ref
    obtain ⟨e1, he1, hce1⟩ := hR.at (k := r1) (by omega)
    obtain ⟨e2, he2, hce2⟩ := hR.at (k := r2) (by omega)
    have hloc : (cs2.map fun v => v.category).sum + (nativeFrameWords "java/lang/System" "arraycopy" 5 + 11) ≤ R.locals := by
      have e0 : nativeFrameWords "java/lang/System" "arraycopy" 5 = 7 := by decide
      rw [e0, hst2.sum]
      omega
    have n1 : ¬ sp9 < 0 := fun q => by have := zn_lt.mp q; rw [q3, zn_0] at this; omega
    have n2 : ¬ dp9 < 0 := fun q => by have := zn_lt.mp q; rw [q2, zn_0] at this; omega
    have n3 : ¬ n9 < 0 := fun q => by have := zn_lt.mp q; rw [q1, zn_0] at this; omega
    have n4 : sp9.toNatClampNeg + n9.toNatClampNeg ≤ G.2.2.1 r1 := by rw [zn_idx q3, zn_idx q1]; omega
    have n5 : dp9.toNatClampNeg + n9.toNatClampNeg ≤ G.2.2.1 r2 := by rw [zn_idx q2, zn_idx q1]; omega
    rw [h3] at hce1
    rw [h4] at hce2
    have hout : ∀ c, c ≠ r2 → ∀ i, zcp h r1 sp.toNat r2 dp.toNat n.toNat c i = h c i := fun c hc i => by
      show (if _ ∧ _ then _ else _) = _
      rw [if_neg (fun q => hc q.1)]
    rcases h2 with rfl | rfl
    · rcases hce1 with ⟨k0, -⟩ | ⟨k0, f, rfl, k1⟩ | ⟨k0, -⟩ | ⟨k0, -⟩
      · omega
      · rcases hce2 with ⟨k0', -⟩ | ⟨k0', g, rfl, k2⟩ | ⟨k0', -⟩ | ⟨k0', -⟩
        · omega
        · refine va_copyi hx hb (by rw [hml, ← hn]; exact hl.1.symm) hown (hts _ w1) (hts _ w2) (hts _ w3) (hts _ w4) hK hP hD hS r1 r2 0 0 he1 he2 rfl rfl rfl n1 n2 n3 n4 n5 (fun _ _ => rfl) (by omega) hloc hdg (fun H1 locs1 hP1 hD1 hS1 => ?_)
          refine HF H1 locs1 _ ls cs2 ?_ hP1 hD1 hS1 (hE.tr (zadr_set he2)) (hl.ext (zadr_set he2)) (hst2.ext (zadr_set he2)) hn hk
          refine hR.set he2 rfl rfl rfl (fun _ _ _ => rfl) hout ?_
          rw [h4]
          refine Or.inr (Or.inl ⟨k0', _, rfl, fun j hj => ?_⟩)
          rw [zn_idx q1, zn_idx q2, zn_idx q3]
          unfold va_cpy zcp
          by_cases hc : dp.toNat ≤ j ∧ j < dp.toNat + n.toNat
          · rw [if_pos hc, if_pos ⟨rfl, hc⟩]
            exact k1 _ (by omega)
          · rw [if_neg hc, if_neg (fun q => hc q.2)]
            exact k2 _ hj
        · omega
        · omega
      · omega
      · omega
    · rcases hce1 with ⟨k0, -⟩ | ⟨k0, -⟩ | ⟨k0, f, rfl, k1⟩ | ⟨k0, -⟩
      · omega
      · omega
      · rcases hce2 with ⟨k0', -⟩ | ⟨k0', -⟩ | ⟨k0', g, rfl, k2⟩ | ⟨k0', -⟩
        · omega
        · omega
        · refine va_copyl hx hb (by rw [hml, ← hn]; exact hl.1.symm) hown (hts _ w1) (hts _ w2) (hts _ w3) (hts _ w4) hK hP hD hS r1 r2 1 1 he1 he2 rfl rfl rfl n1 n2 n3 n4 n5 (fun _ _ => rfl) (by omega) hloc hdg (fun H1 locs1 hP1 hD1 hS1 => ?_)
          refine HF H1 locs1 _ ls cs2 ?_ hP1 hD1 hS1 (hE.tr (zadr_set he2)) (hl.ext (zadr_set he2)) (hst2.ext (zadr_set he2)) hn hk
          refine hR.set he2 rfl rfl rfl (fun _ _ _ => rfl) hout ?_
          rw [h4]
          refine Or.inr (Or.inr (Or.inl ⟨rfl, _, rfl, fun j hj => ?_⟩))
          rw [zn_idx q1, zn_idx q2, zn_idx q3]
          unfold va_cpy zcp
          by_cases hc : dp.toNat ≤ j ∧ j < dp.toNat + n.toNat
          · rw [if_pos hc, if_pos ⟨rfl, hc⟩]
            exact k1 _ (by omega)
          · rw [if_neg hc, if_neg (fun q => hc q.2)]
            exact k2 _ hj
        · omega
      · omega
  · rename_i e1
    obtain ⟨y, by', ml, rt', w1, w2, w3, w4, w5, w6, w9⟩ := g2 e1 e6
    obtain ⟨As, st', h1, h2, h4, h5, HF⟩ := HF
    obtain ⟨cas, cs2, rfl, hcas, hst2, hlen⟩ := hst.pop h1
    have hM := hcal _ _ _ _ _ _ _ _ _ ws cas H.size HF w1 hR hcas
    have hpre : PreS s H (va_Pc cas (zPre cl D cA ZX ws H.size)) cas := ⟨zblind hZX, zready hP hD hS hA hK hZ hZX⟩
    have hroom : (zrm tb d a).frames + 1 ≤ R.frames ∧ 8 + (ml + 11) + (zrm tb d a).locals ≤ R.locals := ⟨zroomF hR3, zroomL hR4 w5⟩
    have hsum : (cs2.map fun v => v.category).sum ≤ 8 := by rw [hst2.sum]; exact h2
    have kk : ∀ (v : Option zV) (cv : Option Value) (G1 : zG) (h1 : zM) (ws' : va_W) (H1 : Heap) (locs1 : List Loc), zor' adK sa ws' v cv → zSt cl fty D cA adK sa p l e R s m args below meth c nL bud A ws0 QQ (pc + 3) lo (v.toList ++ st') G1 h1 (k.1 + (tb.2.2.1 a).1, k.2 + (tb.2.2.1 a).2) → zRel cl fty cA G1 h1 ws' → zext ws ws' → va_P D cl ws' H1 → va_D A ws' → va_S A s.heap H1 locs1 → W p l e R s m args below meth c H1 locs1 (k.1 + (tb.2.2.1 a).1) (k.2 + (tb.2.2.1 a).2) QQ (F0 m (pc + 3) ls (cv.toList ++ cs2)) := by
      intro v cv G1 h1 ws' H1 locs1 hor hq1 hr1 he1 hp1 hd1 hs1
      exact hq1 H1 locs1 ws' ls _ hr1 hp1 hd1 hs1 (hE.tr he1) (hl.ext he1) (zsr.app hor (hst2.ext he1)) hn ⟨h4, h5⟩
    rcases w9 with w9 | ⟨host, w9⟩
    · exact zcallW (va_runS (As := cas) (rest := cs2) ⟨hx, hb, hml, hown, hts⟩ hM ⟨callB_of b hts (zgoodC hgood w2) rfl rfl rfl (hts _ w3) (hts _ w9) w4 hroom, hts _ w6⟩ hpre rfl hlen (by rw [← hn]; exact hl.1) rfl (lv_room hsum) hdg ⟨by omega, by omega⟩) hS (zfree hD hS hA) kk
    · exact zcallW (va_runSN (As := cas) (rest := cs2) (host := host) ⟨hx, hb, hml, hown, hts⟩ hM ⟨va_cnB b hts (zgoodC hgood w2) rfl rfl rfl (va_Nw.of rfl (hts _ w9)) (hts _ w3) w4 hroom, hts _ w6, trivial⟩ hpre rfl hlen (by rw [← hn]; exact hl.1) rfl (lv_room hsum) hdg ⟨by omega, by omega⟩) hS (zfree hD hS hA) kk
end HL
