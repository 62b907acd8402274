set_option maxHeartbeats 40000000 in
set_option maxRecDepth 20000 in
theorem zbody {cl : List vw_C} {fty : Nat → Nat → FieldType} {Ts Tg : List Cond} {mi : zMi} {tb : zTb} {sref : String → Nat → Nat → Prop} {D : va_G} {cA : Nat → ClassId} {adK : Nat → Nat} {sa : Nat} {ZX : (Nat → Prop) → State → Heap → Prop} {p : Program} {l : Launch} {e : Env} {R : Room} {s : State} {m : MethodId} {args : Array Value} {below : List Frame} {meth : Method} {c : Code} {cc : ByteArray} {nL : Nat} {bud : zK} {A : Nat → Prop} {ws0 : va_W} {QQ : State → Prop} {own nm : String} {rt : Nat} {scr : Nat × Nat × (Nat → Int)} {Q : zQ} {Rn : zRun} {cd : Nat → Option zIns} {d : Nat}
    (hsr : ∀ own idx id, sref own idx id → id < 16 ∧ ¬ id = 1000) (CX : zCtx cl fty Ts Tg mi tb sref D cA adK sa ZX p l e R s m args below meth c cc nL bud A ws0 QQ own nm rt scr Q Rn cd d) (pc : Nat) (lo : zLo) (st : List zV) (G : zG) (h : zM) (k : zK)
    (HF : zF tb Rn cd bud rt scr Q (zSt cl fty D cA adK sa p l e R s m args below meth c nL bud A ws0 QQ) pc lo st G h k) : zSt cl fty D cA adK sa p l e R s m args below meth c nL bud A ws0 QQ pc lo st G h k := by
  obtain ⟨hx, hb, hml, hown, hts, hgood, hcl, hK, hA, hZ, hZX, hcd, hini, ⟨hR1, hR2, hR3, hR4⟩, hcal, hretI, hretL, hretV, hscr, hLdc, hStr, hThr, hCat, hLed⟩ := CX
  unfold zF at HF
  split at HF
  · exact HF.elim
  · next j len a b z ecd =>
    obtain ⟨hdg, hlk⟩ := hcd _ _ _ _ _ _ ecd
    split at HF
    · obtain ⟨rfl, hz⟩ := hlk
      intro H locs ws ls cs hR hP hD hS hE hl hst hn hk
      refine lv_iconst hx hb hdg rfl ?_
      exact HF H locs ws ls _ hR hP hD hS hE hl ⟨⟨_, rfl, hz⟩, hst⟩ hn hk
    · obtain ⟨rfl, hz⟩ := hlk
      intro H locs ws ls cs hR hP hD hS hE hl hst hn hk
      refine lv_bipush hx hb hdg rfl ?_
      exact HF H locs ws ls _ hR hP hD hS hE hl ⟨⟨_, rfl, hz⟩, hst⟩ hn hk
    · obtain ⟨rfl, hz⟩ := hlk
      intro H locs ws ls cs hR hP hD hS hE hl hst hn hk
      refine lv_sipush hx hb hdg rfl ?_
      exact HF H locs ws ls _ hR hP hD hS hE hl ⟨⟨_, rfl, hz⟩, hst⟩ hn hk
    · obtain ⟨rfl, hz⟩ := hlk
      intro H locs ws ls cs hR hP hD hS hE hl hst hn hk
      refine lv_lconst hx hb hdg rfl ?_
      exact HF H locs ws ls _ hR hP hD hS hE hl ⟨⟨_, rfl, hz⟩, hst⟩ hn hk
    · obtain ⟨rfl, v, hz, hw⟩ := hlk
      intro H locs ws ls cs hR hP hD hS hE hl hst hn hk
      refine lv_ldc2 hx hb hown (hts _ hw) hdg ?_
      exact HF H locs ws ls _ hR hP hD hS hE hl ⟨⟨_, rfl, hz⟩, hst⟩ hn hk
    · obtain ⟨rfl, h1, h2⟩ := hlk
      split at HF
      · rename_i e1
        obtain ⟨v, hz, hw⟩ := h1 e1
        intro H locs ws ls cs hR hP hD hS hE hl hst hn hk
        refine lv_ldc hx hb hown (hts _ hw) hdg ?_
        exact HF H locs ws ls _ hR hP hD hS hE hl ⟨⟨_, rfl, hz⟩, hst⟩ hn hk
      · rename_i e1
        intro H locs ws ls cs hR hP hD hS hE hl hst hn hk
        refine (hLdc _ _ _ H locs ls cs k.1 k.2 (h2 e1)).1 hdg ?_
        exact HF H locs ws ls _ hR hP hD hS hE hl ⟨⟨_, rfl, fun _ => rfl, fun q => absurd q (hsr _ _ _ (h2 e1)).2⟩, hst⟩ hn hk
    · obtain ⟨rfl, h1, h2⟩ := hlk
      split at HF
      · rename_i e1
        obtain ⟨v, hz, hw⟩ := h1 e1
        intro H locs ws ls cs hR hP hD hS hE hl hst hn hk
        refine lv_ldcw hx hb hown (hts _ hw) hdg ?_
        exact HF H locs ws ls _ hR hP hD hS hE hl ⟨⟨_, rfl, hz⟩, hst⟩ hn hk
      · rename_i e1
        intro H locs ws ls cs hR hP hD hS hE hl hst hn hk
        refine (hLdc _ _ _ H locs ls cs k.1 k.2 (h2 e1)).2 hdg ?_
        exact HF H locs ws ls _ hR hP hD hS hE hl ⟨⟨_, rfl, fun _ => rfl, fun q => absurd q (hsr _ _ _ (h2 e1)).2⟩, hst⟩ hn hk
    · obtain ⟨rfl, hi⟩ := hlk
      obtain ⟨x, h1, HF⟩ := HF
      intro H locs ws ls cs hR hP hD hS hE hl hst hn hk
      obtain ⟨cv, h3, c9, rfl, h4⟩ := hl.2.2 _ _ h1
      refine lv_iload_n hx hb hdg hi h3 ?_
      skip
      exact HF H locs ws ls _ hR hP hD hS hE hl ⟨⟨_, rfl, h4⟩, hst⟩ hn hk
    · obtain ⟨rfl, hi⟩ := hlk
      obtain ⟨x, h1, HF⟩ := HF
      intro H locs ws ls cs hR hP hD hS hE hl hst hn hk
      obtain ⟨cv, h3, c9, rfl, h4⟩ := hl.2.2 _ _ h1
      subst hi
      refine lv_iload hx hb hdg h3 ?_
      exact HF H locs ws ls _ hR hP hD hS hE hl ⟨⟨_, rfl, h4⟩, hst⟩ hn hk
    · obtain ⟨rfl, hi⟩ := hlk
      obtain ⟨x, h1, HF⟩ := HF
      intro H locs ws ls cs hR hP hD hS hE hl hst hn hk
      obtain ⟨cv, h3, c9, rfl, h4⟩ := hl.2.2 _ _ h1
      refine lv_lload_n hx hb hdg hi h3 ?_
      skip
      exact HF H locs ws ls _ hR hP hD hS hE hl ⟨⟨_, rfl, h4⟩, hst⟩ hn hk
    · obtain ⟨rfl, hi⟩ := hlk
      obtain ⟨x, h1, HF⟩ := HF
      intro H locs ws ls cs hR hP hD hS hE hl hst hn hk
      obtain ⟨cv, h3, c9, rfl, h4⟩ := hl.2.2 _ _ h1
      subst hi
      refine lv_lload hx hb hdg h3 ?_
      exact HF H locs ws ls _ hR hP hD hS hE hl ⟨⟨_, rfl, h4⟩, hst⟩ hn hk
    · obtain ⟨rfl, hi⟩ := hlk
      obtain ⟨x, h1, HF⟩ := HF
      intro H locs ws ls cs hR hP hD hS hE hl hst hn hk
      obtain ⟨cv, h3, h4⟩ := hl.2.2 _ _ h1
      rcases x with (_ | q) | s9
      · obtain ⟨rfl, h5⟩ := id h4
        refine lv_aload_nN hx hb hdg hi h3 ?_
        exact HF H locs ws ls _ hR hP hD hS hE hl ⟨h4, hst⟩ hn hk
      · obtain ⟨rfl, h5⟩ := id h4
        refine lv_aload_n hx hb hdg hi h3 ?_
        exact HF H locs ws ls _ hR hP hD hS hE hl ⟨h4, hst⟩ hn hk
      · obtain ⟨q9, rfl, h5⟩ := id h4
        refine lv_aload_n hx hb hdg hi h3 ?_
        exact HF H locs ws ls _ hR hP hD hS hE hl ⟨h4, hst⟩ hn hk
    · obtain ⟨rfl, hi⟩ := hlk
      obtain ⟨x, h1, HF⟩ := HF
      subst hi
      intro H locs ws ls cs hR hP hD hS hE hl hst hn hk
      obtain ⟨cv, h3, h4⟩ := hl.2.2 _ _ h1
      rcases x with (_ | q) | s9
      · obtain ⟨rfl, h5⟩ := id h4
        refine lv_aloadN hx hb hdg h3 ?_
        exact HF H locs ws ls _ hR hP hD hS hE hl ⟨h4, hst⟩ hn hk
      · obtain ⟨rfl, h5⟩ := id h4
        refine lv_aload hx hb hdg h3 ?_
        exact HF H locs ws ls _ hR hP hD hS hE hl ⟨h4, hst⟩ hn hk
      · obtain ⟨q9, rfl, h5⟩ := id h4
        refine lv_aload hx hb hdg h3 ?_
        exact HF H locs ws ls _ hR hP hD hS hE hl ⟨h4, hst⟩ hn hk
    · obtain ⟨rfl, hi⟩ := hlk
      obtain ⟨h1, HF⟩ := HF
      intro H locs ws ls cs hR hP hD hS hE hl hst hn hk
      obtain ⟨c9, cs, rfl, h4, hst⟩ := hst.int
      refine lv_istore_n hx hb hdg hi hl.has h1 rfl (fun ls' hl' => ?_)
      exact HF H locs ws ls' _ hR hP hD hS hE (hl.st1 ⟨c9, rfl, h4⟩ hl') hst (by rw [zst1_len]; exact hn) hk
    · obtain ⟨rfl, hi⟩ := hlk
      obtain ⟨h1, HF⟩ := HF
      subst hi
      intro H locs ws ls cs hR hP hD hS hE hl hst hn hk
      obtain ⟨c9, cs, rfl, h4, hst⟩ := hst.int
      refine lv_istore hx hb hdg hl.has h1 rfl (fun ls' hl' => ?_)
      exact HF H locs ws ls' _ hR hP hD hS hE (hl.st1 ⟨c9, rfl, h4⟩ hl') hst (by rw [zst1_len]; exact hn) hk
    · obtain ⟨rfl, hi⟩ := hlk
      obtain ⟨h1, HF⟩ := HF
      intro H locs ws ls cs hR hP hD hS hE hl hst hn hk
      obtain ⟨c9, cs, rfl, h4, hst⟩ := hst.long
      refine lv_lstore_n hx hb hdg hi hl.has h1 rfl (fun ls' hl' => ?_)
      exact HF H locs ws ls' _ hR hP hD hS hE (hl.st2 ⟨c9, rfl, h4⟩ hl') hst (by rw [zst2_len]; exact hn) hk
    · obtain ⟨rfl, hi⟩ := hlk
      obtain ⟨h1, HF⟩ := HF
      subst hi
      intro H locs ws ls cs hR hP hD hS hE hl hst hn hk
      obtain ⟨c9, cs, rfl, h4, hst⟩ := hst.long
      refine lv_lstore hx hb hdg hl.has h1 rfl (fun ls' hl' => ?_)
      exact HF H locs ws ls' _ hR hP hD hS hE (hl.st2 ⟨c9, rfl, h4⟩ hl') hst (by rw [zst2_len]; exact hn) hk
    · rename_i i9 x9 st9
      obtain ⟨rfl, hi⟩ := hlk
      obtain ⟨h1, HF⟩ := HF
      intro H locs ws ls cs hR hP hD hS hE hl hst hn hk
      obtain ⟨cv, cs2, rfl, h4, hst2⟩ := hst.cons
      rcases x9 with (_ | q) | s9
      · obtain ⟨rfl, h5⟩ := id h4
        refine lv_astore_nN hx hb hdg hi hl.has h1 rfl (fun ls' hl' => ?_)
        exact HF H locs ws ls' _ hR hP hD hS hE (hl.st1 h4 hl') hst2 (by rw [zst1_len]; exact hn) hk
      · obtain ⟨rfl, h5⟩ := id h4
        refine lv_astore_n hx hb hdg hi hl.has h1 rfl (fun ls' hl' => ?_)
        exact HF H locs ws ls' _ hR hP hD hS hE (hl.st1 h4 hl') hst2 (by rw [zst1_len]; exact hn) hk
      · obtain ⟨q9, rfl, h5⟩ := id h4
        refine lv_astore_n hx hb hdg hi hl.has h1 rfl (fun ls' hl' => ?_)
        exact HF H locs ws ls' _ hR hP hD hS hE (hl.st1 h4 hl') hst2 (by rw [zst1_len]; exact hn) hk
    · rename_i i9 x9 st9
      obtain ⟨rfl, hi⟩ := hlk
      obtain ⟨h1, HF⟩ := HF
      subst hi
      intro H locs ws ls cs hR hP hD hS hE hl hst hn hk
      obtain ⟨cv, cs2, rfl, h4, hst2⟩ := hst.cons
      rcases x9 with (_ | q) | s9
      · obtain ⟨rfl, h5⟩ := id h4
        refine lv_astoreN hx hb hdg hl.has h1 rfl (fun ls' hl' => ?_)
        exact HF H locs ws ls' _ hR hP hD hS hE (hl.st1 h4 hl') hst2 (by rw [zst1_len]; exact hn) hk
      · obtain ⟨rfl, h5⟩ := id h4
        refine lv_astore hx hb hdg hl.has h1 rfl (fun ls' hl' => ?_)
        exact HF H locs ws ls' _ hR hP hD hS hE (hl.st1 h4 hl') hst2 (by rw [zst1_len]; exact hn) hk
      · obtain ⟨q9, rfl, h5⟩ := id h4
        refine lv_astore hx hb hdg hl.has h1 rfl (fun ls' hl' => ?_)
        exact HF H locs ws ls' _ hR hP hD hS hE (hl.st1 h4 hl') hst2 (by rw [zst1_len]; exact hn) hk
    · obtain ⟨rfl, rfl, hz⟩ := hlk
      obtain ⟨x, h1, HF⟩ := HF
      intro H locs ws ls cs hR hP hD hS hE hl hst hn hk
      obtain ⟨cv, h3, c9, rfl, h4⟩ := hl.2.2 _ _ h1
      obtain ⟨k9, hk9⟩ := List.getElem?_of_mem (zfull_mem.mpr h3)
      refine lv_iinc hx hb hdg hl.has hk9 rfl (List.getElem?_eq_some_iff.mp h1).1 rfl (fun ls' hl' => ?_)
      exact HF H locs ws ls' _ hR hP hD hS hE (hl.st1 ⟨_, rfl, by rw [zn_add, h4, hz]⟩ hl') hst (by rw [zst1_len]; exact hn) hk
    · obtain rfl : _ = _ := hlk
      intro H locs ws ls cs hR hP hD hS hE hl hst hn hk
      obtain ⟨y9, cs, rfl, h4, hst⟩ := hst.int
      obtain ⟨x9, cs, rfl, h5, hst⟩ := hst.int
      refine lv_iadd hx hb hdg ?_
      exact HF H locs ws ls _ hR hP hD hS hE hl ⟨⟨_, rfl, by rw [zn_add, h4, h5]⟩, hst⟩ hn hk
    · obtain rfl : _ = _ := hlk
      intro H locs ws ls cs hR hP hD hS hE hl hst hn hk
      obtain ⟨y9, cs, rfl, h4, hst⟩ := hst.int
      obtain ⟨x9, cs, rfl, h5, hst⟩ := hst.int
      refine lv_isub hx hb hdg ?_
      exact HF H locs ws ls _ hR hP hD hS hE hl ⟨⟨_, rfl, by rw [zn_sub, h4, h5]⟩, hst⟩ hn hk
    · obtain rfl : _ = _ := hlk
      intro H locs ws ls cs hR hP hD hS hE hl hst hn hk
      obtain ⟨y9, cs, rfl, h4, hst⟩ := hst.int
      obtain ⟨x9, cs, rfl, h5, hst⟩ := hst.int
      refine lv_imul hx hb hdg ?_
      exact HF H locs ws ls _ hR hP hD hS hE hl ⟨⟨_, rfl, by rw [zn_mul, h4, h5]⟩, hst⟩ hn hk
    · obtain rfl : _ = _ := hlk
      obtain ⟨h0, HF⟩ := HF
      intro H locs ws ls cs hR hP hD hS hE hl hst hn hk
      obtain ⟨y9, cs, rfl, h4, hst⟩ := hst.int
      obtain ⟨x9, cs, rfl, h5, hst⟩ := hst.int
      refine lv_idiv hx hb hdg (fun q => h0 (by rw [← h4, q]; rfl)) ?_
      exact HF H locs ws ls _ hR hP hD hS hE hl ⟨⟨_, rfl, by rw [zn_div, h4, h5]⟩, hst⟩ hn hk
    · obtain rfl : _ = _ := hlk
      obtain ⟨h0, HF⟩ := HF
      intro H locs ws ls cs hR hP hD hS hE hl hst hn hk
      obtain ⟨y9, cs, rfl, h4, hst⟩ := hst.int
      obtain ⟨x9, cs, rfl, h5, hst⟩ := hst.int
      refine lv_irem hx hb hdg (fun q => h0 (by rw [← h4, q]; rfl)) ?_
      exact HF H locs ws ls _ hR hP hD hS hE hl ⟨⟨_, rfl, by rw [zn_rem, h4, h5]⟩, hst⟩ hn hk
    · obtain rfl : _ = _ := hlk
      intro H locs ws ls cs hR hP hD hS hE hl hst hn hk
      obtain ⟨y9, cs, rfl, h4, hst⟩ := hst.int
      obtain ⟨x9, cs, rfl, h5, hst⟩ := hst.int
      refine lv_iand hx hb hdg ?_
      exact HF H locs ws ls _ hR hP hD hS hE hl ⟨⟨_, rfl, by rw [zn_and, h4, h5]⟩, hst⟩ hn hk
    · obtain rfl : _ = _ := hlk
      intro H locs ws ls cs hR hP hD hS hE hl hst hn hk
      obtain ⟨y9, cs, rfl, h4, hst⟩ := hst.int
      obtain ⟨x9, cs, rfl, h5, hst⟩ := hst.int
      refine lv_ior hx hb hdg ?_
      exact HF H locs ws ls _ hR hP hD hS hE hl ⟨⟨_, rfl, by rw [zn_or, h4, h5]⟩, hst⟩ hn hk
    · obtain rfl : _ = _ := hlk
      obtain ⟨h0, HF⟩ := HF
      intro H locs ws ls cs hR hP hD hS hE hl hst hn hk
      obtain ⟨y9, cs, rfl, h4, hst⟩ := hst.int
      obtain ⟨x9, cs, rfl, h5, hst⟩ := hst.int
      refine lv_ishl hx hb hdg ?_
      exact HF H locs ws ls _ hR hP hD hS hE hl ⟨⟨_, rfl, by rw [zn_shl h4 h0, h5]⟩, hst⟩ hn hk
    · obtain rfl : _ = _ := hlk
      obtain ⟨h0, HF⟩ := HF
      intro H locs ws ls cs hR hP hD hS hE hl hst hn hk
      obtain ⟨y9, cs, rfl, h4, hst⟩ := hst.int
      obtain ⟨x9, cs, rfl, h5, hst⟩ := hst.int
      refine lv_ishr hx hb hdg ?_
      exact HF H locs ws ls _ hR hP hD hS hE hl ⟨⟨_, rfl, by rw [zn_shr h4 h0, h5]⟩, hst⟩ hn hk
    · obtain rfl : _ = _ := hlk
      intro H locs ws ls cs hR hP hD hS hE hl hst hn hk
      obtain ⟨x9, cs, rfl, h5, hst⟩ := hst.int
      refine lv_i2l hx hb hdg rfl ?_
      exact HF H locs ws ls _ hR hP hD hS hE hl ⟨⟨_, rfl, by rw [Int32.toInt_toInt64, h5]⟩, hst⟩ hn hk
    · obtain rfl : _ = _ := hlk
      intro H locs ws ls cs hR hP hD hS hE hl hst hn hk
      obtain ⟨x9, cs, rfl, h5, hst⟩ := hst.int
      refine lv_i2b hx hb hdg rfl ?_
      exact HF H locs ws ls _ hR hP hD hS hE hl ⟨⟨_, rfl, by rw [zn_i2b, h5]⟩, hst⟩ hn hk
    · obtain rfl : _ = _ := hlk
      intro H locs ws ls cs hR hP hD hS hE hl hst hn hk
      obtain ⟨y9, cs, rfl, h4, hst⟩ := hst.long
      obtain ⟨x9, cs, rfl, h5, hst⟩ := hst.long
      refine lv_ladd hx hb hdg ?_
      exact HF H locs ws ls _ hR hP hD hS hE hl ⟨⟨_, rfl, by rw [zn_addL, h4, h5]⟩, hst⟩ hn hk
    · obtain rfl : _ = _ := hlk
      intro H locs ws ls cs hR hP hD hS hE hl hst hn hk
      obtain ⟨y9, cs, rfl, h4, hst⟩ := hst.long
      obtain ⟨x9, cs, rfl, h5, hst⟩ := hst.long
      refine lv_lsub hx hb hdg ?_
      exact HF H locs ws ls _ hR hP hD hS hE hl ⟨⟨_, rfl, by rw [zn_subL, h4, h5]⟩, hst⟩ hn hk
    · obtain rfl : _ = _ := hlk
      intro H locs ws ls cs hR hP hD hS hE hl hst hn hk
      obtain ⟨y9, cs, rfl, h4, hst⟩ := hst.long
      obtain ⟨x9, cs, rfl, h5, hst⟩ := hst.long
      refine lv_lmul hx hb hdg ?_
      exact HF H locs ws ls _ hR hP hD hS hE hl ⟨⟨_, rfl, by rw [zn_mulL, h4, h5]⟩, hst⟩ hn hk
    · obtain rfl : _ = _ := hlk
      obtain ⟨h0, HF⟩ := HF
      intro H locs ws ls cs hR hP hD hS hE hl hst hn hk
      obtain ⟨y9, cs, rfl, h4, hst⟩ := hst.long
      obtain ⟨x9, cs, rfl, h5, hst⟩ := hst.long
      refine lv_ldiv hx hb hdg (fun q => h0 (by rw [← h4, q]; rfl)) ?_
      exact HF H locs ws ls _ hR hP hD hS hE hl ⟨⟨_, rfl, by rw [zn_divL, h4, h5]⟩, hst⟩ hn hk
    · obtain rfl : _ = _ := hlk
      intro H locs ws ls cs hR hP hD hS hE hl hst hn hk
      obtain ⟨y9, cs, rfl, h4, hst⟩ := hst.long
      obtain ⟨x9, cs, rfl, h5, hst⟩ := hst.long
      refine lv_lxor hx hb hdg ?_
      exact HF H locs ws ls _ hR hP hD hS hE hl ⟨⟨_, rfl, by rw [zn_xorL, h4, h5]⟩, hst⟩ hn hk
    · obtain rfl : _ = _ := hlk
      intro H locs ws ls cs hR hP hD hS hE hl hst hn hk
      obtain ⟨x9, cs, rfl, h5, hst⟩ := hst.long
      refine lv_lneg hx hb hdg ?_
      exact HF H locs ws ls _ hR hP hD hS hE hl ⟨⟨_, rfl, by rw [zn_negL, h5]⟩, hst⟩ hn hk
    · obtain rfl : _ = _ := hlk
      intro H locs ws ls cs hR hP hD hS hE hl hst hn hk
      obtain ⟨y9, cs, rfl, h4, hst⟩ := hst.long
      obtain ⟨x9, cs, rfl, h5, hst⟩ := hst.long
      refine W.lcmp hx hb hdg ?_
      exact HF H locs ws ls _ hR hP hD hS hE hl ⟨⟨_, rfl, by rw [zn_cmp, h4, h5]⟩, hst⟩ hn hk
    · obtain rfl : _ = _ := hlk
      obtain ⟨h0, HF⟩ := HF
      intro H locs ws ls cs hR hP hD hS hE hl hst hn hk
      obtain ⟨cv, cs, rfl, h4, hst⟩ := hst.cons
      refine lv_dup hx hb hdg (by rw [h4.cat]; exact h0) ?_
      exact HF H locs ws ls _ hR hP hD hS hE hl ⟨h4, h4, hst⟩ hn hk
    · obtain rfl : _ = _ := hlk
      obtain ⟨h0, HF⟩ := HF
      intro H locs ws ls cs hR hP hD hS hE hl hst hn hk
      obtain ⟨cv, cs, rfl, h4, hst⟩ := hst.cons
      refine lv_pop hx hb hdg (by rw [h4.cat]; exact h0) ?_
      exact HF H locs ws ls _ hR hP hD hS hE hl hst hn hk
    · obtain rfl : _ = _ := hlk
      obtain ⟨h0, h1, HF⟩ := HF
      intro H locs ws ls cs hR hP hD hS hE hl hst hn hk
      obtain ⟨cv, cs, rfl, h4, hst⟩ := hst.cons
      obtain ⟨cw, cs, rfl, h5, hst⟩ := hst.cons
      refine lv_dup2_11 hx hb hdg (by rw [h4.cat]; exact h0) (by rw [h5.cat]; exact h1) ?_
      exact HF H locs ws ls _ hR hP hD hS hE hl ⟨h4, h5, h4, h5, hst⟩ hn hk
    · obtain ⟨rfl, ht⟩ := hlk
      intro H locs ws ls cs hR hP hD hS hE hl hst hn hk
      refine lv_goto hx hb hdg ht ?_
      exact HF H locs ws ls _ hR hP hD hS hE hl hst hn hk
    · rename_i c9 o9 x8 st9
      obtain ⟨rfl, ht⟩ := hlk
      intro H locs ws ls cs hR hP hD hS hE hl hst hn hk
      obtain ⟨x9, cs, rfl, h5, hst⟩ := hst.int
      cases c9
      · exact lv_if_eq hx hb hdg ht (fun q => HF.1 (by rw [zn_eq, h5, zn_0] at q; exact q) H locs ws ls _ hR hP hD hS hE hl hst hn hk) (fun q => HF.2 (fun q2 => q (by rw [zn_eq, h5, zn_0]; exact q2)) H locs ws ls _ hR hP hD hS hE hl hst hn hk)
      · exact lv_if_ne hx hb hdg ht (fun q => HF.1 (fun q2 => q (by rw [zn_eq, h5, zn_0]; exact q2)) H locs ws ls _ hR hP hD hS hE hl hst hn hk) (fun q => HF.2 (fun q2 => q2 (by rw [zn_eq, h5, zn_0] at q; exact q)) H locs ws ls _ hR hP hD hS hE hl hst hn hk)
      · exact lv_if_lt hx hb hdg ht (fun q => HF.1 (by rw [zn_lt, h5, zn_0] at q; exact q) H locs ws ls _ hR hP hD hS hE hl hst hn hk) (fun q => HF.2 (fun q2 => q (by rw [zn_lt, h5, zn_0]; exact q2)) H locs ws ls _ hR hP hD hS hE hl hst hn hk)
      · exact lv_if_ge hx hb hdg ht (fun q => HF.1 (by rw [zn_le, zn_0, h5] at q; exact q) H locs ws ls _ hR hP hD hS hE hl hst hn hk) (fun q => HF.2 (fun q2 => q (by rw [zn_le, zn_0, h5]; exact q2)) H locs ws ls _ hR hP hD hS hE hl hst hn hk)
      · exact lv_if_gt hx hb hdg ht (fun q => HF.1 (by rw [zn_lt, zn_0, h5] at q; exact q) H locs ws ls _ hR hP hD hS hE hl hst hn hk) (fun q => HF.2 (fun q2 => q (by rw [zn_lt, zn_0, h5]; exact q2)) H locs ws ls _ hR hP hD hS hE hl hst hn hk)
      · exact lv_if_le hx hb hdg ht (fun q => HF.1 (by rw [zn_le, h5, zn_0] at q; exact q) H locs ws ls _ hR hP hD hS hE hl hst hn hk) (fun q => HF.2 (fun q2 => q (by rw [zn_le, h5, zn_0]; exact q2)) H locs ws ls _ hR hP hD hS hE hl hst hn hk)
    · rename_i c9 o9 y8 x8 st9
      obtain ⟨rfl, ht⟩ := hlk
      intro H locs ws ls cs hR hP hD hS hE hl hst hn hk
      obtain ⟨y9, cs, rfl, h4, hst⟩ := hst.int
      obtain ⟨x9, cs, rfl, h5, hst⟩ := hst.int
      cases c9
      · exact lv_icmp_eq hx hb hdg ht (fun q => HF.1 (by rw [zn_eq, h5, h4] at q; exact q) H locs ws ls _ hR hP hD hS hE hl hst hn hk) (fun q => HF.2 (fun q2 => q (by rw [zn_eq, h5, h4]; exact q2)) H locs ws ls _ hR hP hD hS hE hl hst hn hk)
      · exact lv_icmp_ne hx hb hdg ht (fun q => HF.1 (fun q2 => q (by rw [zn_eq, h5, h4]; exact q2)) H locs ws ls _ hR hP hD hS hE hl hst hn hk) (fun q => HF.2 (fun q2 => q2 (by rw [zn_eq, h5, h4] at q; exact q)) H locs ws ls _ hR hP hD hS hE hl hst hn hk)
      · exact lv_icmp_lt hx hb hdg ht (fun q => HF.1 (by rw [zn_lt, h5, h4] at q; exact q) H locs ws ls _ hR hP hD hS hE hl hst hn hk) (fun q => HF.2 (fun q2 => q (by rw [zn_lt, h5, h4]; exact q2)) H locs ws ls _ hR hP hD hS hE hl hst hn hk)
      · exact lv_icmp_ge hx hb hdg ht (fun q => HF.1 (by rw [zn_le, h4, h5] at q; exact q) H locs ws ls _ hR hP hD hS hE hl hst hn hk) (fun q => HF.2 (fun q2 => q (by rw [zn_le, h4, h5]; exact q2)) H locs ws ls _ hR hP hD hS hE hl hst hn hk)
      · exact lv_icmp_gt hx hb hdg ht (fun q => HF.1 (by rw [zn_lt, h4, h5] at q; exact q) H locs ws ls _ hR hP hD hS hE hl hst hn hk) (fun q => HF.2 (fun q2 => q (by rw [zn_lt, h4, h5]; exact q2)) H locs ws ls _ hR hP hD hS hE hl hst hn hk)
      · exact lv_icmp_le hx hb hdg ht (fun q => HF.1 (by rw [zn_le, h5, h4] at q; exact q) H locs ws ls _ hR hP hD hS hE hl hst hn hk) (fun q => HF.2 (fun q2 => q (by rw [zn_le, h5, h4]; exact q2)) H locs ws ls _ hR hP hD hS hE hl hst hn hk)
    · rename_i o9 r9 st9
      obtain ⟨rfl, ht⟩ := hlk
      intro H locs ws ls cs hR hP hD hS hE hl hst hn hk
      obtain ⟨cv, cs2, rfl, ⟨rfl, h4⟩, hst2⟩ := hst.cons
      rcases r9 with _ | q9
      · exact lv_ifnullN hx hb hdg ht (HF.1 rfl H locs ws ls _ hR hP hD hS hE hl hst2 hn hk)
      · exact lv_ifnull hx hb hdg (HF.2 _ rfl H locs ws ls _ hR hP hD hS hE hl hst2 hn hk)
    · rename_i o9 r9 st9
      obtain ⟨rfl, ht⟩ := hlk
      intro H locs ws ls cs hR hP hD hS hE hl hst hn hk
      obtain ⟨cv, cs2, rfl, ⟨rfl, h4⟩, hst2⟩ := hst.cons
      rcases r9 with _ | q9
      · exact lv_ifnonnullN hx hb hdg (HF.1 rfl H locs ws ls _ hR hP hD hS hE hl hst2 hn hk)
      · exact lv_ifnonnull hx hb hdg ht (HF.2 _ rfl H locs ws ls _ hR hP hD hS hE hl hst2 hn hk)
    · rename_i dflt l9 hi9 offs9 x8 st9
      obtain ⟨t1, t2, t3⟩ := hlk
      intro H locs ws ls cs hR hP hD hS hE hl hst hn hk
      obtain ⟨x9, cs, rfl, h5, hst⟩ := hst.int
      by_cases hc : x9.toInt < l9 ∨ hi9 < x9.toInt
      · refine lv_tableOut (tgt := ((pc : Int) + dflt).toNat) hx hb hdg hc (by omega) ?_
        have HF := HF H locs ws ls _ hR hP hD hS hE hl hst hn hk
        unfold ztsw at HF
        rw [← h5, if_pos hc] at HF
        exact HF
      · have hlt : (x9.toInt - l9).toNat < offs9.size := by omega
        refine lv_tableIn (off := offs9[(x9.toInt - l9).toNat]) (tgt := ((pc : Int) + offs9[(x9.toInt - l9).toNat]).toNat) hx hb hdg (fun q => hc (Or.inl q)) (fun q => hc (Or.inr q)) (Array.getElem?_eq_getElem hlt) (by have := t3 _ (Array.getElem_mem_toList hlt); omega) ?_
        have HF := HF H locs ws ls _ hR hP hD hS hE hl hst hn hk
        unfold ztsw at HF
        rw [← h5, if_neg hc] at HF
        rw [Array.getD, dif_pos hlt] at HF
        exact HF
    · rename_i i9 r9 st9
      obtain ⟨rfl, C9, T9, N9, h1, h2, h3, h4⟩ := hlk
      obtain ⟨h5, HF⟩ := HF
      obtain ⟨hc1, hc2, hc3, hc4, hc5, hc6, hc7⟩ := hcl _ _ _ _ h1
      intro H locs ws ls cs hR hP hD hS hE hl hst hn hk
      obtain ⟨cs, rfl, hq, hst⟩ := hst.ref
      obtain ⟨e9, he, hce⟩ := hR.at (k := r9) (by omega)
      rw [h5] at hce
      rcases hce with ⟨k0, fs, C8, T8, rfl, k2, k3, k4⟩ | ⟨k0, -⟩ | ⟨k0, -⟩ | ⟨k0, -⟩
      · rw [h1] at k2
        obtain ⟨rfl, rfl, k5⟩ : C9 = C8 ∧ T9 = T8 ∧ N9 = G.2.2.1 r9 := by cases k2; exact ⟨rfl, rfl, rfl⟩
        obtain ⟨v9, hv9⟩ : ∃ v, fs[b]? = some v := ⟨_, List.getElem?_eq_getElem (by omega)⟩
        have hf := k4 b v9 hv9
        have go : W p l e R s m args below meth c H locs k.1 k.2 QQ (F0 m (pc + 3) ls (v9 :: cs)) := by
          unfold zfr at hf
          split at HF
          · rename_i z2
            rw [if_pos (by omega)] at hf
            exact HF H locs ws ls _ hR hP hD hS hE hl ⟨hf, hst⟩ hn hk
          · rename_i z2
            rw [if_neg (by omega)] at hf
            split at HF
            · rename_i z3
              rw [if_pos (by omega)] at hf
              exact HF H locs ws ls _ hR hP hD hS hE hl ⟨hf, hst⟩ hn hk
            · rename_i z3
              rw [if_neg (by omega)] at hf
              exact HF H locs ws ls _ hR hP hD hS hE hl ⟨hf, hst⟩ hn hk
        rcases h4 with h4 | ⟨host, h4⟩
        · exact va_get hx hb hts hc5 hown hK hP r9 he h1 b h2 (hts _ h4) (fun _ q => q) hv9 hdg go
        · exact va_getN hx hb hts hc5 hown hK hP r9 he h1 b h2 (hts _ h4) (fun _ q => q) hv9 hdg go
      · omega
      · omega
      · omega
    · rename_i i9 x9 r9 st9
      obtain ⟨rfl, C9, T9, N9, h1, h2, h3, h4⟩ := hlk
      obtain ⟨h5, h6, HF⟩ := HF
      obtain ⟨hc1, hc2, hc3, hc4, hc5, hc6, hc7⟩ := hcl _ _ _ _ h1
      intro H locs ws ls cs hR hP hD hS hE hl hst hn hk
      obtain ⟨c9, cs, rfl, h7, hst⟩ := hst.int
      obtain ⟨cs3, rfl, hq, hst3⟩ := hst.ref
      obtain ⟨e9, he, hce⟩ := hR.at (k := r9) (by omega)
      have hce' := hce
      rw [h5] at hce
      rcases hce with ⟨k0, fs, C8, T8, rfl, k2, k3, k4⟩ | ⟨k0, -⟩ | ⟨k0, -⟩ | ⟨k0, -⟩
      · rw [h1] at k2
        obtain ⟨rfl, rfl, k5⟩ : C9 = C8 ∧ T9 = T8 ∧ N9 = G.2.2.1 r9 := by cases k2; exact ⟨rfl, rfl, rfl⟩
        have hfc := (hc3 b h2).2
        have hnf : narrow (fty a b) (.int c9) = .int c9 ∧ fits (fty a b) (.int c9) = true := by
          rcases h6 with h6 | ⟨h6, h8⟩
          · generalize fty a b = ty at h3 hfc
            cases ty <;> simp [zfc] at h3 hfc <;> first | omega | exact ⟨rfl, rfl⟩
          · generalize fty a b = ty at h3 hfc
            cases ty <;> simp [zfc] at h3 hfc <;> first | omega | (have h9 := zn_bool (c := c9) (by rw [h7]; exact h8); exact ⟨h9.1, h9.2.1⟩)
        have hnew : ∀ ws' : va_W, ws' = ws.set r9 (zadr ws r9, .inr (a, fs.set b (.int c9))) → zRel cl fty cA G (zu h r9 b x9) ws' := by
          intro ws' hw'
          subst hw'
          refine hR.set he rfl rfl rfl (fun _ _ _ => rfl) (fun c9 hc i => ?_) ?_
          · show (if _ ∧ _ then _ else _) = _
            rw [if_neg (fun q => hc q.1)]
          · rw [h5]
            refine Or.inl ⟨k0, _, C9, T9, rfl, by rw [h1, k5], by rw [List.length_set]; exact k3, fun j v hj => ?_⟩
            by_cases hjb : b = j
            · subst hjb
              rw [List.getElem?_set_self (by omega)] at hj
              cases hj
              unfold zfr
              rw [if_neg (by omega), if_neg (by omega)]
              exact ⟨c9, rfl, by show _ = (if _ ∧ _ then _ else _); rw [if_pos ⟨rfl, rfl⟩]; exact h7⟩
            · rw [List.getElem?_set_ne hjb] at hj
              have hf := (k4 j v hj).ext (zadr_set (e' := .inr (a, fs.set b (.int c9))) he)
              have e7 : zu h r9 b x9 r9 j = h r9 j := by show (if _ ∧ _ then _ else _) = _; rw [if_neg (fun q => hjb q.2.symm)]
              rw [e7]
              exact hf
        rcases h4 with ⟨h4, h8 | ⟨h8, h9, h10⟩⟩ | ⟨host, h4, h8⟩
        · exact va_put hx hb hts hc5 (fty a) (fun k hk9 => (hc3 k hk9).1) hc4 hown hK hP hD hS r9 he h1 b h2 (hts _ h4) (fun _ q => q) h8 (hc3 b h2).1 hnf.1 hnf.2 (by omega) hdg (fun H1 locs1 hP1 hD1 hS1 => HF H1 locs1 _ ls cs3 (hnew _ rfl) hP1 hD1 hS1 (hE.tr (zadr_set he)) (hl.ext (zadr_set he)) (hst3.ext (zadr_set he)) hn hk)
        · exact va_putF hx hb hts hc5 (fty a) (fun k hk9 => (hc3 k hk9).1) hc4 hown hK hP hD hS r9 he h1 b h2 (hts _ h4) (fun _ q => q) h8 (hini h9) h10 (hc3 b h2).1 hnf.1 hnf.2 (by omega) hdg (fun H1 locs1 hP1 hD1 hS1 => HF H1 locs1 _ ls cs3 (hnew _ rfl) hP1 hD1 hS1 (hE.tr (zadr_set he)) (hl.ext (zadr_set he)) (hst3.ext (zadr_set he)) hn hk)
        · exact va_putN hx hb hts hc5 (fty a) (fun k hk9 => (hc3 k hk9).1) hc4 hown hK hP hD hS r9 he h1 b h2 (hts _ h4) (fun _ q => q) h8 (hc3 b h2).1 hnf.1 hnf.2 (by omega) hdg (fun H1 locs1 hP1 hD1 hS1 => HF H1 locs1 _ ls cs3 (hnew _ rfl) hP1 hD1 hS1 (hE.tr (zadr_set he)) (hl.ext (zadr_set he)) (hst3.ext (zadr_set he)) hn hk)
      · omega
      · omega
      · omega
    · rename_i i9 x9 r9 st9
      obtain ⟨rfl, C9, T9, N9, h1, h2, h3, h4⟩ := hlk
      obtain ⟨h5, h6, HF⟩ := HF
      obtain ⟨hc1, hc2, hc3, hc4, hc5, hc6, hc7⟩ := hcl _ _ _ _ h1
      intro H locs ws ls cs hR hP hD hS hE hl hst hn hk
      obtain ⟨c9, cs, rfl, h7, hst⟩ := hst.long
      obtain ⟨cs3, rfl, hq, hst3⟩ := hst.ref
      obtain ⟨e9, he, hce⟩ := hR.at (k := r9) (by omega)
      have hce' := hce
      rw [h5] at hce
      rcases hce with ⟨k0, fs, C8, T8, rfl, k2, k3, k4⟩ | ⟨k0, -⟩ | ⟨k0, -⟩ | ⟨k0, -⟩
      · rw [h1] at k2
        obtain ⟨rfl, rfl, k5⟩ : C9 = C8 ∧ T9 = T8 ∧ N9 = G.2.2.1 r9 := by cases k2; exact ⟨rfl, rfl, rfl⟩
        have hfc := (hc3 b h2).2
        have hnf : narrow (fty a b) (.long c9) = .long c9 ∧ fits (fty a b) (.long c9) = true := by
          generalize fty a b = ty at h3 hfc
          cases ty <;> simp [zfc] at h3 hfc <;> first | omega | exact ⟨rfl, rfl⟩
        have hnew : ∀ ws' : va_W, ws' = ws.set r9 (zadr ws r9, .inr (a, fs.set b (.long c9))) → zRel cl fty cA G (zu h r9 b x9) ws' := by
          intro ws' hw'
          subst hw'
          refine hR.set he rfl rfl rfl (fun _ _ _ => rfl) (fun c9 hc i => ?_) ?_
          · show (if _ ∧ _ then _ else _) = _
            rw [if_neg (fun q => hc q.1)]
          · rw [h5]
            refine Or.inl ⟨k0, _, C9, T9, rfl, by rw [h1, k5], by rw [List.length_set]; exact k3, fun j v hj => ?_⟩
            by_cases hjb : b = j
            · subst hjb
              rw [List.getElem?_set_self (by omega)] at hj
              cases hj
              unfold zfr
              rw [if_neg (by omega), if_pos (by omega)]
              exact ⟨c9, rfl, by show _ = (if _ ∧ _ then _ else _); rw [if_pos ⟨rfl, rfl⟩]; exact h7⟩
            · rw [List.getElem?_set_ne hjb] at hj
              have hf := (k4 j v hj).ext (zadr_set (e' := .inr (a, fs.set b (.long c9))) he)
              have e7 : zu h r9 b x9 r9 j = h r9 j := by show (if _ ∧ _ then _ else _) = _; rw [if_neg (fun q => hjb q.2.symm)]
              rw [e7]
              exact hf
        rcases h4 with ⟨h4, h8 | ⟨h8, h9, h10⟩⟩ | ⟨host, h4, h8⟩
        · exact va_put hx hb hts hc5 (fty a) (fun k hk9 => (hc3 k hk9).1) hc4 hown hK hP hD hS r9 he h1 b h2 (hts _ h4) (fun _ q => q) h8 (hc3 b h2).1 hnf.1 hnf.2 (by omega) hdg (fun H1 locs1 hP1 hD1 hS1 => HF H1 locs1 _ ls cs3 (hnew _ rfl) hP1 hD1 hS1 (hE.tr (zadr_set he)) (hl.ext (zadr_set he)) (hst3.ext (zadr_set he)) hn hk)
        · exact va_putF hx hb hts hc5 (fty a) (fun k hk9 => (hc3 k hk9).1) hc4 hown hK hP hD hS r9 he h1 b h2 (hts _ h4) (fun _ q => q) h8 (hini h9) h10 (hc3 b h2).1 hnf.1 hnf.2 (by omega) hdg (fun H1 locs1 hP1 hD1 hS1 => HF H1 locs1 _ ls cs3 (hnew _ rfl) hP1 hD1 hS1 (hE.tr (zadr_set he)) (hl.ext (zadr_set he)) (hst3.ext (zadr_set he)) hn hk)
        · exact va_putN hx hb hts hc5 (fty a) (fun k hk9 => (hc3 k hk9).1) hc4 hown hK hP hD hS r9 he h1 b h2 (hts _ h4) (fun _ q => q) h8 (hc3 b h2).1 hnf.1 hnf.2 (by omega) hdg (fun H1 locs1 hP1 hD1 hS1 => HF H1 locs1 _ ls cs3 (hnew _ rfl) hP1 hD1 hS1 (hE.tr (zadr_set he)) (hl.ext (zadr_set he)) (hst3.ext (zadr_set he)) hn hk)
      · omega
      · omega
      · omega
    · rename_i i9 x9 r9 st9
      obtain ⟨rfl, C9, T9, N9, h1, h2, h3, h4⟩ := hlk
      obtain ⟨h5, h6, HF⟩ := HF
      obtain ⟨hc1, hc2, hc3, hc4, hc5, hc6, hc7⟩ := hcl _ _ _ _ h1
      intro H locs ws ls cs hR hP hD hS hE hl hst hn hk
      obtain ⟨cv, cs2, rfl, ⟨rfl, h7⟩, hst2⟩ := hst.cons
      obtain ⟨cs3, rfl, hq, hst3⟩ := hst2.ref
      obtain ⟨e9, he, hce⟩ := hR.at (k := r9) (by omega)
      have hce' := hce
      rw [h5] at hce
      rcases hce with ⟨k0, fs, C8, T8, rfl, k2, k3, k4⟩ | ⟨k0, -⟩ | ⟨k0, -⟩ | ⟨k0, -⟩
      · rw [h1] at k2
        obtain ⟨rfl, rfl, k5⟩ : C9 = C8 ∧ T9 = T8 ∧ N9 = G.2.2.1 r9 := by cases k2; exact ⟨rfl, rfl, rfl⟩
        have hfc := (hc3 b h2).2
        have hnf : narrow (fty a b) (va_rf (x9.map (zadr ws))) = va_rf (x9.map (zadr ws)) ∧ fits (fty a b) (va_rf (x9.map (zadr ws))) = true := by
          generalize fty a b = ty at h3 hfc
          cases x9 <;> cases ty <;> simp [zfc] at h3 hfc <;> first | omega | exact ⟨rfl, rfl⟩
        have hnew : ∀ ws' : va_W, ws' = ws.set r9 (zadr ws r9, .inr (a, fs.set b (va_rf (x9.map (zadr ws))))) → zRel cl fty cA (zgu G r9 b x9) h ws' := by
          intro ws' hw'
          subst hw'
          refine hR.set he rfl rfl rfl (fun c9 hc i => ?_) (fun _ _ _ => rfl) ?_
          · show (if _ ∧ _ then _ else _) = _
            rw [if_neg (fun q => hc q.1)]
          · rw [h5]
            refine Or.inl ⟨k0, _, C9, T9, rfl, by rw [h1, k5], by rw [List.length_set]; exact k3, fun j v hj => ?_⟩
            by_cases hjb : b = j
            · subst hjb
              rw [List.getElem?_set_self (by omega)] at hj
              cases hj
              unfold zfr
              rw [if_pos (by omega)]
              have e7 : (zgu G r9 b x9).2.2.2 r9 b = x9 := by show (if _ ∧ _ then _ else _) = _; rw [if_pos ⟨rfl, rfl⟩]
              rw [e7]
              exact ⟨by rw [zmap.ext (zadr_set he) h7], h7.ext (zadr_set he)⟩
            · rw [List.getElem?_set_ne hjb] at hj
              have hf := (k4 j v hj).ext (zadr_set (e' := .inr (a, fs.set b (va_rf (x9.map (zadr ws))))) he)
              have e7 : (zgu G r9 b x9).2.2.2 r9 j = G.2.2.2 r9 j := by show (if _ ∧ _ then _ else _) = _; rw [if_neg (fun q => hjb q.2.symm)]
              rw [e7]
              exact hf
        rcases h4 with ⟨h4, h8 | ⟨h8, h9, h10⟩⟩ | ⟨host, h4, h8⟩
        · exact va_put hx hb hts hc5 (fty a) (fun k hk9 => (hc3 k hk9).1) hc4 hown hK hP hD hS r9 he h1 b h2 (hts _ h4) (fun _ q => q) h8 (hc3 b h2).1 hnf.1 hnf.2 (by omega) hdg (fun H1 locs1 hP1 hD1 hS1 => HF H1 locs1 _ ls cs3 (hnew _ rfl) hP1 hD1 hS1 (hE.tr (zadr_set he)) (hl.ext (zadr_set he)) (hst3.ext (zadr_set he)) hn hk)
        · exact va_putF hx hb hts hc5 (fty a) (fun k hk9 => (hc3 k hk9).1) hc4 hown hK hP hD hS r9 he h1 b h2 (hts _ h4) (fun _ q => q) h8 (hini h9) h10 (hc3 b h2).1 hnf.1 hnf.2 (by omega) hdg (fun H1 locs1 hP1 hD1 hS1 => HF H1 locs1 _ ls cs3 (hnew _ rfl) hP1 hD1 hS1 (hE.tr (zadr_set he)) (hl.ext (zadr_set he)) (hst3.ext (zadr_set he)) hn hk)
        · exact va_putN hx hb hts hc5 (fty a) (fun k hk9 => (hc3 k hk9).1) hc4 hown hK hP hD hS r9 he h1 b h2 (hts _ h4) (fun _ q => q) h8 (hc3 b h2).1 hnf.1 hnf.2 (by omega) hdg (fun H1 locs1 hP1 hD1 hS1 => HF H1 locs1 _ ls cs3 (hnew _ rfl) hP1 hD1 hS1 (hE.tr (zadr_set he)) (hl.ext (zadr_set he)) (hst3.ext (zadr_set he)) hn hk)
      · omega
      · omega
      · omega
    · rename_i i8 r9 st9
      obtain rfl : _ = _ := hlk
      obtain ⟨h5, h6, HF⟩ := HF
      intro H locs ws ls cs hR hP hD hS hE hl hst hn hk
      obtain ⟨i9, cs1, rfl, h4, hst1⟩ := hst.int
      obtain ⟨cs2, rfl, hq, hst2⟩ := hst1.ref
      obtain ⟨e9, he, hce⟩ := hR.at (k := r9) (by omega)
      rw [h5] at hce
      rcases hce with ⟨k0, -⟩ | ⟨k0, f, rfl, k1⟩ | ⟨k0, -⟩ | ⟨k0, -⟩
      · omega
      · refine va_iald hx hb hK hP r9 0 he rfl (zn_in h4 h6) hdg ?_
        exact HF H locs ws ls _ hR hP hD hS hE hl ⟨⟨_, rfl, by rw [zn_idx h4]; exact k1 _ (by omega)⟩, hst2⟩ hn hk
      · omega
      · omega
    · rename_i i8 s9 st9
      obtain rfl : _ = _ := hlk
      obtain ⟨h5, h6, h7, HF⟩ := HF
      intro H locs ws ls cs hR hP hD hS hE hl hst hn hk
      obtain ⟨i9, cs1, rfl, h4, hst1⟩ := hst.int
      obtain ⟨a9, cs2, rfl, q1, q2, hst2⟩ := hst1.str
      obtain ⟨xs, hX, hsa1, hsa2, hxs⟩ := hscr h6
      obtain rfl := q2 h5
      refine va_sld hx hb hX hsa1 hsa2 hS (zn_in h4 h7) hdg ?_
      exact HF H locs ws ls _ hR hP hD hS hE hl ⟨⟨_, rfl, by rw [zn_idx h4, hxs]⟩, hst2⟩ hn hk
    · rename_i i8 r9 st9
      obtain rfl : _ = _ := hlk
      obtain ⟨h5, h6, HF⟩ := HF
      intro H locs ws ls cs hR hP hD hS hE hl hst hn hk
      obtain ⟨i9, cs1, rfl, h4, hst1⟩ := hst.int
      obtain ⟨cs2, rfl, hq, hst2⟩ := hst1.ref
      obtain ⟨e9, he, hce⟩ := hR.at (k := r9) (by omega)
      rw [h5] at hce
      rcases hce with ⟨k0, -⟩ | ⟨k0, -⟩ | ⟨k0, f, rfl, k1⟩ | ⟨k0, -⟩
      · omega
      · omega
      · refine va_lald hx hb hK hP r9 1 he rfl (zn_in h4 h6) hdg ?_
        exact HF H locs ws ls _ hR hP hD hS hE hl ⟨⟨_, rfl, by rw [zn_idx h4]; exact k1 _ (by omega)⟩, hst2⟩ hn hk
      · omega
    · rename_i i8 r9 st9
      obtain rfl : _ = _ := hlk
      obtain ⟨h0, h5, h6, HF⟩ := HF
      intro H locs ws ls cs hR hP hD hS hE hl hst hn hk
      obtain ⟨i9, cs1, rfl, h4, hst1⟩ := hst.int
      obtain ⟨cs2, rfl, hq, hst2⟩ := hst1.ref
      obtain ⟨e9, he, hce⟩ := hR.at (k := r9) (by omega)
      rw [h5] at hce
      rcases hce with ⟨k0, -⟩ | ⟨k0, f, rfl, k1⟩ | ⟨k0, -⟩ | ⟨k0, -⟩
      · omega
      · rcases h0 with rfl | rfl
        · refine va_bald hx hb hK hP r9 2 he rfl (zn_in h4 h6) hdg ?_
          exact HF H locs ws ls _ hR hP hD hS hE hl ⟨⟨_, rfl, by rw [zn_idx h4]; exact k1 _ (by omega)⟩, hst2⟩ hn hk
        · refine va_zald hx hb hK hP r9 3 he rfl (zn_in h4 h6) hdg ?_
          exact HF H locs ws ls _ hR hP hD hS hE hl ⟨⟨_, rfl, by rw [zn_idx h4]; exact k1 _ (by omega)⟩, hst2⟩ hn hk
      · omega
      · omega
    · rename_i i8 r9 st9
      obtain rfl : _ = _ := hlk
      obtain ⟨h0, h5, h6, HF⟩ := HF
      intro H locs ws ls cs hR hP hD hS hE hl hst hn hk
      obtain ⟨i9, cs1, rfl, h4, hst1⟩ := hst.int
      obtain ⟨cs2, rfl, hq, hst2⟩ := hst1.ref
      obtain ⟨e9, he, hce⟩ := hR.at (k := r9) (by omega)
      rw [h5] at hce
      rcases hce with ⟨k0, -⟩ | ⟨k0, -⟩ | ⟨k0, -⟩ | ⟨k0, f, rfl, k1⟩
      · omega
      · omega
      · omega
      · have k2 := k1 i8.toNat (by omega)
        rcases h0 with rfl | rfl
        · refine zaald hx hb hK hP r9 4 he (ty := .array .int) rfl rfl (zn_in h4 h6) hdg ?_
          exact HF H locs ws ls _ hR hP hD hS hE hl ⟨⟨by rw [zn_idx h4, k2.1], k2.2⟩, hst2⟩ hn hk
        · refine zaald hx hb hK hP r9 5 he (ty := .array .long) rfl rfl (zn_in h4 h6) hdg ?_
          exact HF H locs ws ls _ hR hP hD hS hE hl ⟨⟨by rw [zn_idx h4, k2.1], k2.2⟩, hst2⟩ hn hk
    · rename_i x8 i8 r9 st9
      obtain rfl : _ = _ := hlk
      obtain ⟨h5, h6, HF⟩ := HF
      intro H locs ws ls cs hR hP hD hS hE hl hst hn hk
      obtain ⟨x9, cs0, rfl, h3, hst0⟩ := hst.int
      obtain ⟨i9, cs1, rfl, h4, hst1⟩ := hst0.int
      obtain ⟨cs2, rfl, hq, hst2⟩ := hst1.ref
      obtain ⟨e9, he, hce⟩ := hR.at (k := r9) (by omega)
      rw [h5] at hce
      rcases hce with ⟨k0, -⟩ | ⟨k0, f, rfl, k1⟩ | ⟨k0, -⟩ | ⟨k0, -⟩
      · omega
      · skip
        refine va_iast hx hb hK hP hD hS r9 0 he rfl (zn_in h4 h6) hdg (fun H1 locs1 hP1 hD1 hS1 => ?_)
        refine HF H1 locs1 _ ls cs2 ?_ hP1 hD1 hS1 (hE.tr (zadr_set he)) (hl.ext (zadr_set he)) (hst2.ext (zadr_set he)) hn hk
        refine hR.set he rfl rfl rfl (fun _ _ _ => rfl) (fun c9 hc i => ?_) ?_
        · show (if _ ∧ _ then _ else _) = _
          rw [if_neg (fun q => hc q.1)]
        · rw [h5]
          refine Or.inr (Or.inl ⟨k0, _, rfl, fun j hj => ?_⟩)
          by_cases hj2 : j = i8.toNat
          · subst hj2
            have e7 : zu h r9 i8.toNat x8 r9 i8.toNat = x8 := by show (if _ ∧ _ then _ else _) = _; rw [if_pos ⟨rfl, rfl⟩]
            rw [e7, zn_idx h4]
            simp only [upd, vp_updL, if_pos]
            exact h3
          · have e7 : zu h r9 i8.toNat x8 r9 j = h r9 j := by show (if _ ∧ _ then _ else _) = _; rw [if_neg (fun q => hj2 q.2)]
            rw [e7, zn_idx h4]
            simp only [upd, vp_updL, if_neg hj2]
            exact k1 j hj
      · omega
      · omega
    · rename_i x8 i8 r9 st9
      obtain rfl : _ = _ := hlk
      obtain ⟨h5, h6, HF⟩ := HF
      intro H locs ws ls cs hR hP hD hS hE hl hst hn hk
      obtain ⟨x9, cs0, rfl, h3, hst0⟩ := hst.long
      obtain ⟨i9, cs1, rfl, h4, hst1⟩ := hst0.int
      obtain ⟨cs2, rfl, hq, hst2⟩ := hst1.ref
      obtain ⟨e9, he, hce⟩ := hR.at (k := r9) (by omega)
      rw [h5] at hce
      rcases hce with ⟨k0, -⟩ | ⟨k0, -⟩ | ⟨k0, f, rfl, k1⟩ | ⟨k0, -⟩
      · omega
      · omega
      · skip
        refine va_last hx hb hK hP hD hS r9 1 he rfl (zn_in h4 h6) hdg (fun H1 locs1 hP1 hD1 hS1 => ?_)
        refine HF H1 locs1 _ ls cs2 ?_ hP1 hD1 hS1 (hE.tr (zadr_set he)) (hl.ext (zadr_set he)) (hst2.ext (zadr_set he)) hn hk
        refine hR.set he rfl rfl rfl (fun _ _ _ => rfl) (fun c9 hc i => ?_) ?_
        · show (if _ ∧ _ then _ else _) = _
          rw [if_neg (fun q => hc q.1)]
        · rw [h5]
          refine Or.inr (Or.inr (Or.inl ⟨k0, _, rfl, fun j hj => ?_⟩))
          by_cases hj2 : j = i8.toNat
          · subst hj2
            have e7 : zu h r9 i8.toNat x8 r9 i8.toNat = x8 := by show (if _ ∧ _ then _ else _) = _; rw [if_pos ⟨rfl, rfl⟩]
            rw [e7, zn_idx h4]
            simp only [upd, vp_updL, if_pos]
            exact h3
          · have e7 : zu h r9 i8.toNat x8 r9 j = h r9 j := by show (if _ ∧ _ then _ else _) = _; rw [if_neg (fun q => hj2 q.2)]
            rw [e7, zn_idx h4]
            simp only [upd, vp_updL, if_neg hj2]
            exact k1 j hj
      · omega
    · rename_i x8 i8 r9 st9
      obtain rfl : _ = _ := hlk
      obtain ⟨h0, h5, h6, HF⟩ := HF
      intro H locs ws ls cs hR hP hD hS hE hl hst hn hk
      obtain ⟨x9, cs0, rfl, h3, hst0⟩ := hst.int
      obtain ⟨i9, cs1, rfl, h4, hst1⟩ := hst0.int
      obtain ⟨cs2, rfl, hq, hst2⟩ := hst1.ref
      obtain ⟨e9, he, hce⟩ := hR.at (k := r9) (by omega)
      rw [h5] at hce
      rcases hce with ⟨k0, -⟩ | ⟨k0, f, rfl, k1⟩ | ⟨k0, -⟩ | ⟨k0, -⟩
      · omega
      · rcases h0 with rfl | ⟨rfl, hbo⟩
        · skip
          refine va_bast hx hb hK hP hD hS r9 2 he rfl (zn_in h4 h6) hdg (fun H1 locs1 hP1 hD1 hS1 => ?_)
          refine HF H1 locs1 _ ls cs2 ?_ hP1 hD1 hS1 (hE.tr (zadr_set he)) (hl.ext (zadr_set he)) (hst2.ext (zadr_set he)) hn hk
          refine hR.set he rfl rfl rfl (fun _ _ _ => rfl) (fun c9 hc i => ?_) ?_
          · show (if _ ∧ _ then _ else _) = _
            rw [if_neg (fun q => hc q.1)]
          · rw [h5]
            refine Or.inr (Or.inl ⟨k0, _, rfl, fun j hj => ?_⟩)
            by_cases hj2 : j = i8.toNat
            · subst hj2
              have e7 : zu h r9 i8.toNat (wb x8) r9 i8.toNat = (wb x8) := by show (if _ ∧ _ then _ else _) = _; rw [if_pos ⟨rfl, rfl⟩]
              rw [e7, zn_idx h4]
              simp only [upd, vp_updL, if_pos]
              rw [vp_nar_byte, zn_i2b, h3]
            · have e7 : zu h r9 i8.toNat (wb x8) r9 j = h r9 j := by show (if _ ∧ _ then _ else _) = _; rw [if_neg (fun q => hj2 q.2)]
              rw [e7, zn_idx h4]
              simp only [upd, vp_updL, if_neg hj2]
              exact k1 j hj
        · skip
          refine va_zast hx hb hK hP hD hS r9 3 he rfl (zn_in h4 h6) hdg (fun H1 locs1 hP1 hD1 hS1 => ?_)
          refine HF H1 locs1 _ ls cs2 ?_ hP1 hD1 hS1 (hE.tr (zadr_set he)) (hl.ext (zadr_set he)) (hst2.ext (zadr_set he)) hn hk
          refine hR.set he rfl rfl rfl (fun _ _ _ => rfl) (fun c9 hc i => ?_) ?_
          · show (if _ ∧ _ then _ else _) = _
            rw [if_neg (fun q => hc q.1)]
          · rw [h5]
            refine Or.inr (Or.inl ⟨k0, _, rfl, fun j hj => ?_⟩)
            by_cases hj2 : j = i8.toNat
            · subst hj2
              have e7 : zu h r9 i8.toNat (wb x8) r9 i8.toNat = (wb x8) := by show (if _ ∧ _ then _ else _) = _; rw [if_pos ⟨rfl, rfl⟩]
              rw [e7, zn_idx h4]
              simp only [upd, vp_updL, if_pos]
              rw [(zn_bool (by rw [h3]; exact hbo)).2.2, h3]; rcases hbo with q | q <;> rw [q] <;> decide
            · have e7 : zu h r9 i8.toNat (wb x8) r9 j = h r9 j := by show (if _ ∧ _ then _ else _) = _; rw [if_neg (fun q => hj2 q.2)]
              rw [e7, zn_idx h4]
              simp only [upd, vp_updL, if_neg hj2]
              exact k1 j hj
      · omega
      · omega
    · rename_i r9 st9
      obtain rfl : _ = _ := hlk
      obtain ⟨h5, h6, h7, HF⟩ := HF
      intro H locs ws ls cs hR hP hD hS hE hl hst hn hk
      obtain ⟨cs2, rfl, hq, hst2⟩ := hst.ref
      obtain ⟨e9, he, hce⟩ := hR.at (k := r9) (by omega)
      have hv : (Int32.ofNat (G.2.2.1 r9)).toInt = (G.2.2.1 r9 : Int) := nI_toInt h7
      rcases hce with ⟨k0, -⟩ | ⟨k0, f, rfl, k1⟩ | ⟨k0, f, rfl, k1⟩ | ⟨k0, -⟩
      · omega
      · refine va_alen hx hb hK hP r9 (G.2.1 r9 - 10) he (ty := zat (G.2.1 r9)) (by rcases k0 with q | q | q <;> rw [q] <;> rfl) rfl hdg ?_
        exact HF H locs ws ls _ hR hP hD hS hE hl ⟨⟨_, rfl, hv⟩, hst2⟩ hn hk
      · refine va_alen hx hb hK hP r9 1 he (ty := .long) (by rw [k0]; rfl) rfl hdg ?_
        exact HF H locs ws ls _ hR hP hD hS hE hl ⟨⟨_, rfl, hv⟩, hst2⟩ hn hk
      · omega
    · rename_i s9 st9
      obtain rfl : _ = _ := hlk
      obtain ⟨h5, h6, h7, HF⟩ := HF
      intro H locs ws ls cs hR hP hD hS hE hl hst hn hk
      obtain ⟨a9, cs2, rfl, q1, q2, hst2⟩ := hst.str
      obtain ⟨xs, hX, hsa1, hsa2, hxs⟩ := hscr h6
      obtain rfl := q2 h5
      refine va_slen hx hb hX hsa1 hsa2 hS hdg ?_
      exact HF H locs ws ls _ hR hP hD hS hE hl ⟨⟨_, rfl, nI_toInt h7⟩, hst2⟩ hn hk
    · rename_i t9 n8 st9
      obtain ⟨rfl, h1, h2, h3a, h3b⟩ := hlk
      obtain ⟨h5, h6, h7, h8, HF⟩ := HF
      intro H locs ws ls cs hR hP hD hS hE hl hst hn hk
      obtain ⟨n9, cs1, rfl, h4, hst1⟩ := hst.int
      rcases (show a = 10 ∨ a = 11 ∨ a = 12 ∨ a = 13 by omega) with e0 | e0 | e0 | e0
      · subst e0
        refine va_newa (a0 := (n8.toNat, .inl (fun _ => 0))) hx hb (hts _ h1) h2 hK hP hD hS hA (fun _ => rfl) (fun q => by have := zn_lt.mp q; rw [h4, zn_0] at this; omega) (zn_idx h4) (by simp only [zat, componentBytes]; omega) (by omega) (by omega) hdg (fun q9 cA9 H1 hK1 hP1 hD1 hS1 => ?_)
        have ec : cA9 = cA 10 := Option.some.inj ((hK1.2 6 _ rfl).2.symm.trans (hK.2 0 _ rfl).2)
        subst ec
        exact HF H1 locs _ ls _ (hR.push (Or.inr (Or.inl ⟨by omega, _, rfl, fun _ _ => rfl⟩))) hP1 hD1 hS1 (hE.tr zadr_app) (hl.ext zadr_app) ⟨⟨by rw [Option.map_some]; show _ = Value.ref _; congr 1; rw [← hR.1]; exact (zadr_of (by rw [List.getElem?_append_right (Nat.le_refl _), Nat.sub_self]; rfl)).symm, fun q hq => by cases hq; rw [List.length_append, hR.1]; exact Nat.lt_succ_self _⟩, hst1.ext zadr_app⟩ hn ⟨h7, h8⟩
      · subst e0
        refine va_newa (a0 := (n8.toNat, .inr (.inl (fun _ => 0)))) hx hb (hts _ h1) h2 hK hP hD hS hA (fun _ => rfl) (fun q => by have := zn_lt.mp q; rw [h4, zn_0] at this; omega) (zn_idx h4) (by simp only [zat, componentBytes]; omega) (by omega) (by omega) hdg (fun q9 cA9 H1 hK1 hP1 hD1 hS1 => ?_)
        have ec : cA9 = cA 11 := Option.some.inj ((hK1.2 6 _ rfl).2.symm.trans (hK.2 1 _ rfl).2)
        subst ec
        exact HF H1 locs _ ls _ (hR.push (Or.inr (Or.inr (Or.inl ⟨by omega, _, rfl, fun _ _ => rfl⟩)))) hP1 hD1 hS1 (hE.tr zadr_app) (hl.ext zadr_app) ⟨⟨by rw [Option.map_some]; show _ = Value.ref _; congr 1; rw [← hR.1]; exact (zadr_of (by rw [List.getElem?_append_right (Nat.le_refl _), Nat.sub_self]; rfl)).symm, fun q hq => by cases hq; rw [List.length_append, hR.1]; exact Nat.lt_succ_self _⟩, hst1.ext zadr_app⟩ hn ⟨h7, h8⟩
      · subst e0
        refine va_newa (a0 := (n8.toNat, .inl (fun _ => 0))) hx hb (hts _ h1) h2 hK hP hD hS hA (fun _ => rfl) (fun q => by have := zn_lt.mp q; rw [h4, zn_0] at this; omega) (zn_idx h4) (by simp only [zat, componentBytes]; omega) (by omega) (by omega) hdg (fun q9 cA9 H1 hK1 hP1 hD1 hS1 => ?_)
        have ec : cA9 = cA 12 := Option.some.inj ((hK1.2 6 _ rfl).2.symm.trans (hK.2 2 _ rfl).2)
        subst ec
        exact HF H1 locs _ ls _ (hR.push (Or.inr (Or.inl ⟨by omega, _, rfl, fun _ _ => rfl⟩))) hP1 hD1 hS1 (hE.tr zadr_app) (hl.ext zadr_app) ⟨⟨by rw [Option.map_some]; show _ = Value.ref _; congr 1; rw [← hR.1]; exact (zadr_of (by rw [List.getElem?_append_right (Nat.le_refl _), Nat.sub_self]; rfl)).symm, fun q hq => by cases hq; rw [List.length_append, hR.1]; exact Nat.lt_succ_self _⟩, hst1.ext zadr_app⟩ hn ⟨h7, h8⟩
      · subst e0
        refine va_newa (a0 := (n8.toNat, .inl (fun _ => 0))) hx hb (hts _ h1) h2 hK hP hD hS hA (fun _ => rfl) (fun q => by have := zn_lt.mp q; rw [h4, zn_0] at this; omega) (zn_idx h4) (by simp only [zat, componentBytes]; omega) (by omega) (by omega) hdg (fun q9 cA9 H1 hK1 hP1 hD1 hS1 => ?_)
        have ec : cA9 = cA 13 := Option.some.inj ((hK1.2 6 _ rfl).2.symm.trans (hK.2 3 _ rfl).2)
        subst ec
        exact HF H1 locs _ ls _ (hR.push (Or.inr (Or.inl ⟨by omega, _, rfl, fun _ _ => rfl⟩))) hP1 hD1 hS1 (hE.tr zadr_app) (hl.ext zadr_app) ⟨⟨by rw [Option.map_some]; show _ = Value.ref _; congr 1; rw [← hR.1]; exact (zadr_of (by rw [List.getElem?_append_right (Nat.le_refl _), Nat.sub_self]; rfl)).symm, fun q hq => by cases hq; rw [List.length_append, hR.1]; exact Nat.lt_succ_self _⟩, hst1.ext zadr_app⟩ hn ⟨h7, h8⟩
    · exact zmulti hx hb hown hts hK hA hR1 hR2 hdg hlk HF
    · rename_i i9 st9
      obtain ⟨rfl, hz1, hz2⟩ := hlk
      by_cases e99 : z = 99
      · rw [if_pos e99] at HF
        obtain ⟨w1, w2, rfl⟩ := hz1 e99
        exact hThr w1 w2 _ _ _ _ _ HF.1 HF.2.1 HF.2.2.1 HF.2.2.2
      rw [if_neg e99] at HF
      obtain ⟨C9, T9, N9, h1, h2⟩ := hz2 e99
      obtain ⟨h5, h6, HF⟩ := HF
      obtain ⟨hc1, hc2, hc3, hc4, hc5, hc6, hc7⟩ := hcl _ _ _ _ h1
      intro H locs ws ls cs hR hP hD hS hE hl hst hn hk
      subst hc2
      refine va_new (fs := (List.range (tb.1 a)).map (fun j => defaultValue (fty a j))) hx hb hts hc5 (fty a) (fun k hk9 => (hc3 k hk9).1) hown (hts _ h2) (hts _ hc6) (hts _ hc7) hK hP hD hS hA h1 (fun j hj => by simp [vp_V, hj]) (by omega) (by omega) hdg (fun q9 H1 hP1 hD1 hS1 => ?_)
      refine HF H1 locs _ ls _ (hR.push (Or.inl ⟨hc1, _, _, _, rfl, h1, by simp, fun j v hj => ?_⟩)) hP1 hD1 hS1 (hE.tr zadr_app) (hl.ext zadr_app) ⟨⟨by rw [Option.map_some]; show _ = Value.ref _; congr 1; rw [← hR.1]; exact (zadr_of (by rw [List.getElem?_append_right (Nat.le_refl _), Nat.sub_self]; rfl)).symm, fun q hq => by cases hq; rw [List.length_append, hR.1]; exact Nat.lt_succ_self _⟩, hst.ext zadr_app⟩ hn ⟨h5, h6⟩
      have hj2 : j < tb.1 a := by have := (List.getElem?_eq_some_iff.mp hj).1; simpa using this
      have ev : v = defaultValue (fty a j) := by rw [List.getElem?_map, List.getElem?_range hj2] at hj; exact (Option.some.inj hj).symm
      subst ev
      exact zfr_new (hc3 j hj2).2
    · exact zinvI hx hb hml hown hts hgood hK hA hZ hZX hR1 hR2 hR3 hR4 hcal hdg hlk HF
    · exact zinvV hx hb hml hown hts hgood hcl hK hA hZ hZX hR1 hR2 hR3 hR4 hcal hStr hCat hdg hlk HF
    · exact zinvS hx hb hml hown hts hgood hK hA hZ hZX hR1 hR2 hR3 hR4 hcal hLed hdg hlk HF
    · obtain rfl : _ = _ := hlk
      obtain ⟨h1, h2⟩ := HF
      intro H locs ws ls cs hR hP hD hS hE hl hst hn hk
      obtain ⟨x9, cs1, rfl, h4, hst1⟩ := hst.int
      obtain rfl := hst1.nil
      refine W.widen hk.1 hk.2 ?_
      exact hretI x9 G h ws H locs ls pc hdg (by rw [h4]; exact h1) (by rw [h4]; exact h2) hR hP hD hS hE
    · obtain rfl : _ = _ := hlk
      obtain ⟨h1, h2⟩ := HF
      intro H locs ws ls cs hR hP hD hS hE hl hst hn hk
      obtain ⟨x9, cs1, rfl, h4, hst1⟩ := hst.long
      obtain rfl := hst1.nil
      refine W.widen hk.1 hk.2 ?_
      exact hretL x9 G h ws H locs ls pc hdg h1 (by rw [h4]; exact h2) hR hP hD hS hE
    · obtain rfl : _ = _ := hlk
      obtain ⟨h1, h2⟩ := HF
      intro H locs ws ls cs hR hP hD hS hE hl hst hn hk
      obtain rfl := hst.nil
      refine W.widen hk.1 hk.2 ?_
      exact hretV G h ws H locs ls pc hdg h1 h2 hR hP hD hS hE
    · exact HF.elim