def zMR : List zEn := [zeX0_init, zeX0_clear, zeX0_seat, zeX0_counter, zeX0_close, zeX1_init, zeX1_setPrices, zeX1_turnTo, zeX1_mostNear, zeX1_hasOf, zeX1_choice, zeX1_chooseAll, zeX2_init, zeX3_init, zeX3_read, zeX3_open, zeX3_fail, zeX3_nextToken, zeX3_kindOf, zeX3_isWord, zeX3_readBaker, zeX3_readSort, zeX3_readPrices, zeX3_readPrice, zeX3_readKeep, zeX3_readName, zeX3_isToldName, zeX3_sameBytes, zeX3_readWhole, zeX3_readEither, zeX3_pass, zeX4_init, zeX4_stage, zeX4_keepBelow, zeX4_shareNewOnes, zeX4_tabulate, zeX4_firstLike, zeX4_choosesAlike, zeX4_actOf, zeX4_askAll, zeX4_settle, zeX4_weigh, zeX4_pull, zeX4_follow, zeX4_anyLures, zeX5_init, zeX5_copyOf, zeX5_obey, zeX5_acts, zeX5_oldStep, zeX5_newStep, zeX5_actOf, zeX6_init, zeX6_bringAsTold, zeX6_bring, zeX6_pass, zeX6_move, zeX7_init, zeX7_feed, zeX7_putBytes, zeX7_town, zeX7_fault, zeX7_where, zeX7_hold, zeX7_ask, zeX7_choose, zeX7_has, zeX7_seed, zeX7_go, zeX7_passYear, zeX7_again, zeX7_held, zeX7_earned, zeX7_rest, zeX7_act, zeX7_worth, zeX7_gain, zeX7_best, zeX7_bestAct, zeX7_earnedBy, zeX7_paid, zeX7_leavings, zeX7_kindest, zeX7_paidByLaw, zeX7_promise, zeX7_shape, zeX7_fit, zeX7_worthOfShape, zeX7_late, zeX7_lures, zeX7_edge, zeX7_change, zeX7_led, zeX7_size, zeX7_baker, zeX7_sort, zeX7_trouble, zeX7_isTown, zeX7_isBaker, zeX7_isSort, zeX7_isStep, zeX7_isLaw, zeX7_isBuyer, zeX7_home, zeX7_troubleAhead, zeX7_troubleOfOutcome, zeX7_openMarket, zeX7_openYear, zeX7_stage, zeX7_worthAtRest, zeX8_init, zeX8_isTold, zeX9_init, zeX9_thrown, zeX9_refused, zeX9_lost, zeX9_denied, zeX9_done, zeX9_told, zeX9_granted, zeX9_in, zeX9_byteAt, zeX9_isLetter, zeX9_isDigit, zeX9_wordOf, zeX9_goesOn, zeX9_wrong, zeX9_wrongHere, zeX9_isWord, zeX9_eatsSign, zeX9_readWhole, zeX9_readPart, zeX9_readTown, zeX9_readLine, zeX9_readNamed, zeX9_readBaker, zeX9_readSort, zeX9_readPrices, zeX9_readKeep, zeX9_feed, zeX9_town, zeX9_fault, zeX9_where, zeX9_laysLaw, zeX9_looksFar, zeX9_leaving, zeX9_nearOf, zeX9_mostNear, zeX9_valueOf, zeX9_choiceOf, zeX9_cell, zeX9_chooses, zeX9_goes, zeX9_freshAsTold, zeX9_isBaker, zeX9_isSort, zeX9_isStep, zeX9_pricesAsked, zeX9_hold, zeX9_ask, zeX9_choose, zeX9_has, zeX9_seed, zeX9_draws, zeX9_passes, zeX9_go, zeX9_again, zeX9_held, zeX9_earned, zeX9_actsOf, zeX9_allActs, zeX9_isTooMuch, zeX9_stride, zeX9_actOf, zeX9_oldOf, zeX9_newOf, zeX9_pricesBy, zeX9_worthAt, zeX9_gainOf, zeX9_picks, zeX9_puts, zeX9_year, zeX9_restsOne, zeX9_restsTwo, zeX9_restsThree, zeX9_rests, zeX9_beginsFromHeld, zeX9_rest, zeX9_act, zeX9_worth, zeX9_earnsBy, zeX9_bestAct, zeX9_gain, zeX9_best, zeX9_plays, zeX9_refusesLaw, zeX9_paid, zeX9_leavings, zeX9_kindest, zeX9_worthOf, zeX9_promise, zeX9_shaped, zeX9_shape, zeX9_fit, zeX9_late, zeX9_lures, zeX9_somebodyLures, zeX9_edge, zeX9_change, zeX9_led, zeX9_size, zeX9_baker, zeX9_sort, zeX9_trouble, zeJ9_floorDiv_f86c9, zeJ9_max_7cf53, zeJ9_max_f86c9, zeJ9_min_7cf53, zeJ7_fill_d0a16, zeJ7_fill_53178, zeL_led]
def zstr : List (List Int) := [[98, 97, 107, 101, 114], [115, 111, 114, 116], [112, 114, 105, 99, 101, 115], [107, 101, 101, 112], [99, 111, 115, 116, 115], [102, 105, 116, 115], [101, 110, 116, 101, 114, 115], [110, 101, 119], [119, 111, 114, 116, 104], [108, 101, 97, 118, 101, 115], [115, 116, 97, 121, 115], [110, 101, 97, 114], [102, 97, 114], [111, 110, 101], [116, 119, 111], [110, 111, 32, 115, 117, 99, 104, 32, 121, 101, 97, 114]]
def zmi : zMi := fun a => match zMR[a]? with
  | some e => if e.2.2.2.2.2.2.2.2.2.2.1 = true then some (e.1, e.2.1, e.2.2.1, e.2.2.2.1) else none
  | none => none
def zmt' : Nat → Option zMe := fun a => match zMR[a]? with
  | some e => some ((fun pc => e.2.2.2.2.2.2.2.2.2.2.2.lookup pc), e.2.2.2.2.2.2.2.1, e.2.2.2.2.2.2.2.2.1, e.2.2.1)
  | none => none
def ztb : zTb := ((fun ci => [7, 5, 4, 14, 15, 14, 9, 14, 16, 53].getD ci 0), (fun i => zstr.getD i []), (fun a => match zMR[a]? with
  | some e => e.2.2.2.2.2.2.2.1
  | none => (0, 0)), (fun a => match zMR[a]? with
  | some e => e.2.2.2.2.2.2.1
  | none => 0))
def zsref (own : String) (idx id : Nat) : Prop := ∃ x ∈ zSR, own = zonm x.1 ∧ x.2.1 = idx ∧ x.2.2 = id
theorem zsref_id : ∀ own idx id, zsref own idx id → id < 16 ∧ ¬ id = 1000 := by
  have h : ∀ x ∈ zSR, x.2.2 < 16 ∧ ¬ x.2.2 = 1000 := by decide
  rintro own idx id ⟨x, hx, -, -, rfl⟩
  exact h x hx
def zEok (e : zEn) : Prop := plainFor e.1 = true ∧ Cond.code e.1 e.2.1 e.2.2.1 e.2.2.2.1 ∈ zTg ∧ Cond.initialized e.1.cls ∈ zTs ∧ (e.1.cls ≠ "java/lang/invoke/MethodHandle" ∧ e.1.cls ≠ "java/lang/invoke/VarHandle" ∧ (parseMethodDescriptor e.1.desc).map (fun d => d.parameters.length) = some e.2.2.2.2.1) ∧ e.2.2.1 ≤ 40 ∧ e.1.cls = zonm e.2.2.2.2.2.2.2.2.2.1
  ∧ ((e.2.2.2.2.2.2.2.2.1 = 0 ∧ e.2.2.2.1 = none) ∨ (e.2.2.2.2.2.2.2.2.1 = 1 ∧ e.2.2.2.1 = some .int) ∨ (e.2.2.2.2.2.2.2.2.1 = 2 ∧ e.2.2.2.1 = some .boolean) ∨ (e.2.2.2.2.2.2.2.2.1 = 3 ∧ e.2.2.2.1 = some .long))
  ∧ (e.2.2.2.2.2.1 = 0 → Cond.static e.1 ∈ zTs) ∧ (e.2.2.2.2.2.1 = 1 → Cond.instanceMethod e.1 ∈ zTs ∧ Cond.selects e.1.cls e.1 e.1 ∈ zTs ∧ ∃ (T : u_T) (N : Nat), zcl[e.2.2.2.2.2.2.1]? = some (e.1.cls, T, N)) ∧ (e.2.2.2.2.2.1 = 2 → Cond.instanceMethod e.1 ∈ zTs ∧ e.1.name = "<init>" ∧ e.2.2.2.1 = none)
  ∧ (∃ ini : Bool, (ini = true → e.1.name = "<init>") ∧ zchk e.2.2.2.2.2.2.2.2.2.1 ini e.2.1 e.2.2.2.2.2.2.2.2.2.2.2 = true) ∧ ¬ (e.1.cls = "StayHouse" ∧ e.1.name = "led") ∧ e.1.cls ≠ "StayHouseLaw"

set_option maxRecDepth 100000 in
theorem zoX0_init : zEok zeX0_init := ⟨by decide, zmg 257 rfl, zmt 6 rfl, ⟨by decide, by decide, by decide +kernel⟩, by decide, rfl, Or.inl ⟨rfl, rfl⟩, fun h => absurd h (by decide), fun h => absurd h (by decide), fun _ => ⟨zmt 256 rfl, rfl, rfl⟩, ⟨true, fun _ => rfl, zkX0_init⟩, by decide, by decide⟩
set_option maxRecDepth 100000 in
theorem zoX0_clear : zEok zeX0_clear := ⟨by decide, zmg 571 rfl, zmt 6 rfl, ⟨by decide, by decide, by decide +kernel⟩, by decide, rfl, Or.inl ⟨rfl, rfl⟩, fun h => absurd h (by decide), fun _ => ⟨zmt 569 rfl, zmt 570 rfl, _, _, rfl⟩, fun h => absurd h (by decide), ⟨false, fun h => absurd h (by decide), zkX0_clear⟩, by decide, by decide⟩
set_option maxRecDepth 100000 in
theorem zoX0_seat : zEok zeX0_seat := ⟨by decide, zmg 598 rfl, zmt 6 rfl, ⟨by decide, by decide, by decide +kernel⟩, by decide, rfl, Or.inr (Or.inl ⟨rfl, rfl⟩), fun h => absurd h (by decide), fun _ => ⟨zmt 596 rfl, zmt 597 rfl, _, _, rfl⟩, fun h => absurd h (by decide), ⟨false, fun h => absurd h (by decide), zkX0_seat⟩, by decide, by decide⟩
set_option maxRecDepth 100000 in
theorem zoX0_counter : zEok zeX0_counter := ⟨by decide, zmg 610 rfl, zmt 6 rfl, ⟨by decide, by decide, by decide +kernel⟩, by decide, rfl, Or.inr (Or.inl ⟨rfl, rfl⟩), fun h => absurd h (by decide), fun _ => ⟨zmt 608 rfl, zmt 609 rfl, _, _, rfl⟩, fun h => absurd h (by decide), ⟨false, fun h => absurd h (by decide), zkX0_counter⟩, by decide, by decide⟩
set_option maxRecDepth 100000 in
theorem zoX0_close : zEok zeX0_close := ⟨by decide, zmg 699 rfl, zmt 6 rfl, ⟨by decide, by decide, by decide +kernel⟩, by decide, rfl, Or.inr (Or.inl ⟨rfl, rfl⟩), fun h => absurd h (by decide), fun _ => ⟨zmt 697 rfl, zmt 698 rfl, _, _, rfl⟩, fun h => absurd h (by decide), ⟨false, fun h => absurd h (by decide), zkX0_close⟩, by decide, by decide⟩
set_option maxRecDepth 100000 in
theorem zoX1_init : zEok zeX1_init := ⟨by decide, zmg 188 rfl, zmt 5 rfl, ⟨by decide, by decide, by decide +kernel⟩, by decide, rfl, Or.inl ⟨rfl, rfl⟩, fun h => absurd h (by decide), fun h => absurd h (by decide), fun _ => ⟨zmt 187 rfl, rfl, rfl⟩, ⟨true, fun _ => rfl, zkX1_init⟩, by decide, by decide⟩
set_option maxRecDepth 100000 in
theorem zoX1_setPrices : zEok zeX1_setPrices := ⟨by decide, zmg 626 rfl, zmt 5 rfl, ⟨by decide, by decide, by decide +kernel⟩, by decide, rfl, Or.inl ⟨rfl, rfl⟩, fun h => absurd h (by decide), fun _ => ⟨zmt 624 rfl, zmt 625 rfl, _, _, rfl⟩, fun h => absurd h (by decide), ⟨false, fun h => absurd h (by decide), zkX1_setPrices⟩, by decide, by decide⟩
set_option maxRecDepth 100000 in
theorem zoX1_turnTo : zEok zeX1_turnTo := ⟨by decide, zmg 630 rfl, zmt 5 rfl, ⟨by decide, by decide, by decide +kernel⟩, by decide, rfl, Or.inl ⟨rfl, rfl⟩, fun h => absurd h (by decide), fun _ => ⟨zmt 628 rfl, zmt 629 rfl, _, _, rfl⟩, fun h => absurd h (by decide), ⟨false, fun h => absurd h (by decide), zkX1_turnTo⟩, by decide, by decide⟩
set_option maxRecDepth 100000 in
theorem zoX1_mostNear : zEok zeX1_mostNear := ⟨by decide, zmg 634 rfl, zmt 5 rfl, ⟨by decide, by decide, by decide +kernel⟩, by decide, rfl, Or.inr (Or.inl ⟨rfl, rfl⟩), fun h => absurd h (by decide), fun _ => ⟨zmt 633 rfl, zmp 22 rfl, _, _, rfl⟩, fun h => absurd h (by decide), ⟨false, fun h => absurd h (by decide), zkX1_mostNear⟩, by decide, by decide⟩
set_option maxRecDepth 100000 in
theorem zoX1_hasOf : zEok zeX1_hasOf := ⟨by decide, zmg 638 rfl, zmt 5 rfl, ⟨by decide, by decide, by decide +kernel⟩, by decide, rfl, Or.inr (Or.inl ⟨rfl, rfl⟩), fun h => absurd h (by decide), fun _ => ⟨zmt 636 rfl, zmt 637 rfl, _, _, rfl⟩, fun h => absurd h (by decide), ⟨false, fun h => absurd h (by decide), zkX1_hasOf⟩, by decide, by decide⟩
set_option maxRecDepth 100000 in
theorem zoX1_choice : zEok zeX1_choice := ⟨by decide, zmg 649 rfl, zmt 5 rfl, ⟨by decide, by decide, by decide +kernel⟩, by decide, rfl, Or.inr (Or.inl ⟨rfl, rfl⟩), fun h => absurd h (by decide), fun _ => ⟨zmt 647 rfl, zmt 648 rfl, _, _, rfl⟩, fun h => absurd h (by decide), ⟨false, fun h => absurd h (by decide), zkX1_choice⟩, by decide, by decide⟩
set_option maxRecDepth 100000 in
theorem zoX1_chooseAll : zEok zeX1_chooseAll := ⟨by decide, zmg 672 rfl, zmt 5 rfl, ⟨by decide, by decide, by decide +kernel⟩, by decide, rfl, Or.inl ⟨rfl, rfl⟩, fun h => absurd h (by decide), fun _ => ⟨zmt 670 rfl, zmt 671 rfl, _, _, rfl⟩, fun h => absurd h (by decide), ⟨false, fun h => absurd h (by decide), zkX1_chooseAll⟩, by decide, by decide⟩
set_option maxRecDepth 100000 in
theorem zoX2_init : zEok zeX2_init := ⟨by decide, zmg 356 rfl, zmt 8 rfl, ⟨by decide, by decide, by decide +kernel⟩, by decide, rfl, Or.inl ⟨rfl, rfl⟩, fun h => absurd h (by decide), fun h => absurd h (by decide), fun _ => ⟨zmt 355 rfl, rfl, rfl⟩, ⟨true, fun _ => rfl, zkX2_init⟩, by decide, by decide⟩
set_option maxRecDepth 100000 in
theorem zoX3_init : zEok zeX3_init := ⟨by decide, zmg 34 rfl, zmt 2 rfl, ⟨by decide, by decide, by decide +kernel⟩, by decide, rfl, Or.inl ⟨rfl, rfl⟩, fun h => absurd h (by decide), fun h => absurd h (by decide), fun _ => ⟨zmt 33 rfl, rfl, rfl⟩, ⟨true, fun _ => rfl, zkX3_init⟩, by decide, by decide⟩
set_option maxRecDepth 100000 in
theorem zoX3_read : zEok zeX3_read := ⟨by decide, zmg 433 rfl, zmt 2 rfl, ⟨by decide, by decide, by decide +kernel⟩, by decide, rfl, Or.inr (Or.inl ⟨rfl, rfl⟩), fun h => absurd h (by decide), fun _ => ⟨zmt 431 rfl, zmt 432 rfl, _, _, rfl⟩, fun h => absurd h (by decide), ⟨false, fun h => absurd h (by decide), zkX3_read⟩, by decide, by decide⟩
set_option maxRecDepth 100000 in
theorem zoX3_open : zEok zeX3_open := ⟨by decide, zmg 437 rfl, zmt 2 rfl, ⟨by decide, by decide, by decide +kernel⟩, by decide, rfl, Or.inl ⟨rfl, rfl⟩, fun h => absurd h (by decide), fun _ => ⟨zmt 436 rfl, zmp 1 rfl, _, _, rfl⟩, fun h => absurd h (by decide), ⟨false, fun h => absurd h (by decide), zkX3_open⟩, by decide, by decide⟩
set_option maxRecDepth 100000 in
theorem zoX3_fail : zEok zeX3_fail := ⟨by decide, zmg 506 rfl, zmt 2 rfl, ⟨by decide, by decide, by decide +kernel⟩, by decide, rfl, Or.inl ⟨rfl, rfl⟩, fun h => absurd h (by decide), fun _ => ⟨zmt 505 rfl, zmp 6 rfl, _, _, rfl⟩, fun h => absurd h (by decide), ⟨false, fun h => absurd h (by decide), zkX3_fail⟩, by decide, by decide⟩
set_option maxRecDepth 100000 in
theorem zoX3_nextToken : zEok zeX3_nextToken := ⟨by decide, zmg 441 rfl, zmt 2 rfl, ⟨by decide, by decide, by decide +kernel⟩, by decide, rfl, Or.inl ⟨rfl, rfl⟩, fun h => absurd h (by decide), fun _ => ⟨zmt 440 rfl, zmp 2 rfl, _, _, rfl⟩, fun h => absurd h (by decide), ⟨false, fun h => absurd h (by decide), zkX3_nextToken⟩, by decide, by decide⟩
set_option maxRecDepth 100000 in
theorem zoX3_kindOf : zEok zeX3_kindOf := ⟨by decide, zmg 445 rfl, zmt 2 rfl, ⟨by decide, by decide, by decide +kernel⟩, by decide, rfl, Or.inr (Or.inl ⟨rfl, rfl⟩), fun h => absurd h (by decide), fun _ => ⟨zmt 444 rfl, zmp 3 rfl, _, _, rfl⟩, fun h => absurd h (by decide), ⟨false, fun h => absurd h (by decide), zkX3_kindOf⟩, by decide, by decide⟩
set_option maxRecDepth 100000 in
theorem zoX3_isWord : zEok zeX3_isWord := ⟨by decide, zmg 450 rfl, zmt 2 rfl, ⟨by decide, by decide, by decide +kernel⟩, by decide, rfl, Or.inr (Or.inr (Or.inl ⟨rfl, rfl⟩)), fun h => absurd h (by decide), fun _ => ⟨zmt 449 rfl, zmp 4 rfl, _, _, rfl⟩, fun h => absurd h (by decide), ⟨false, fun h => absurd h (by decide), zkX3_isWord⟩, by decide, by decide⟩
set_option maxRecDepth 100000 in
theorem zoX3_readBaker : zEok zeX3_readBaker := ⟨by decide, zmg 502 rfl, zmt 2 rfl, ⟨by decide, by decide, by decide +kernel⟩, by decide, rfl, Or.inl ⟨rfl, rfl⟩, fun h => absurd h (by decide), fun _ => ⟨zmt 501 rfl, zmp 5 rfl, _, _, rfl⟩, fun h => absurd h (by decide), ⟨false, fun h => absurd h (by decide), zkX3_readBaker⟩, by decide, by decide⟩
set_option maxRecDepth 100000 in
theorem zoX3_readSort : zEok zeX3_readSort := ⟨by decide, zmg 536 rfl, zmt 2 rfl, ⟨by decide, by decide, by decide +kernel⟩, by decide, rfl, Or.inl ⟨rfl, rfl⟩, fun h => absurd h (by decide), fun _ => ⟨zmt 535 rfl, zmp 12 rfl, _, _, rfl⟩, fun h => absurd h (by decide), ⟨false, fun h => absurd h (by decide), zkX3_readSort⟩, by decide, by decide⟩
set_option maxRecDepth 100000 in
theorem zoX3_readPrices : zEok zeX3_readPrices := ⟨by decide, zmg 550 rfl, zmt 2 rfl, ⟨by decide, by decide, by decide +kernel⟩, by decide, rfl, Or.inl ⟨rfl, rfl⟩, fun h => absurd h (by decide), fun _ => ⟨zmt 549 rfl, zmp 14 rfl, _, _, rfl⟩, fun h => absurd h (by decide), ⟨false, fun h => absurd h (by decide), zkX3_readPrices⟩, by decide, by decide⟩
set_option maxRecDepth 100000 in
theorem zoX3_readPrice : zEok zeX3_readPrice := ⟨by decide, zmg 556 rfl, zmt 2 rfl, ⟨by decide, by decide, by decide +kernel⟩, by decide, rfl, Or.inl ⟨rfl, rfl⟩, fun h => absurd h (by decide), fun _ => ⟨zmt 555 rfl, zmp 15 rfl, _, _, rfl⟩, fun h => absurd h (by decide), ⟨false, fun h => absurd h (by decide), zkX3_readPrice⟩, by decide, by decide⟩
set_option maxRecDepth 100000 in
theorem zoX3_readKeep : zEok zeX3_readKeep := ⟨by decide, zmg 560 rfl, zmt 2 rfl, ⟨by decide, by decide, by decide +kernel⟩, by decide, rfl, Or.inl ⟨rfl, rfl⟩, fun h => absurd h (by decide), fun _ => ⟨zmt 559 rfl, zmp 16 rfl, _, _, rfl⟩, fun h => absurd h (by decide), ⟨false, fun h => absurd h (by decide), zkX3_readKeep⟩, by decide, by decide⟩
set_option maxRecDepth 100000 in
theorem zoX3_readName : zEok zeX3_readName := ⟨by decide, zmg 510 rfl, zmt 2 rfl, ⟨by decide, by decide, by decide +kernel⟩, by decide, rfl, Or.inl ⟨rfl, rfl⟩, fun h => absurd h (by decide), fun _ => ⟨zmt 509 rfl, zmp 7 rfl, _, _, rfl⟩, fun h => absurd h (by decide), ⟨false, fun h => absurd h (by decide), zkX3_readName⟩, by decide, by decide⟩
set_option maxRecDepth 100000 in
theorem zoX3_isToldName : zEok zeX3_isToldName := ⟨by decide, zmg 517 rfl, zmt 2 rfl, ⟨by decide, by decide, by decide +kernel⟩, by decide, rfl, Or.inr (Or.inr (Or.inl ⟨rfl, rfl⟩)), fun h => absurd h (by decide), fun _ => ⟨zmt 516 rfl, zmp 8 rfl, _, _, rfl⟩, fun h => absurd h (by decide), ⟨false, fun h => absurd h (by decide), zkX3_isToldName⟩, by decide, by decide⟩
set_option maxRecDepth 100000 in
theorem zoX3_sameBytes : zEok zeX3_sameBytes := ⟨by decide, zmg 521 rfl, zmt 2 rfl, ⟨by decide, by decide, by decide +kernel⟩, by decide, rfl, Or.inr (Or.inr (Or.inl ⟨rfl, rfl⟩)), fun h => absurd h (by decide), fun _ => ⟨zmt 520 rfl, zmp 9 rfl, _, _, rfl⟩, fun h => absurd h (by decide), ⟨false, fun h => absurd h (by decide), zkX3_sameBytes⟩, by decide, by decide⟩
set_option maxRecDepth 100000 in
theorem zoX3_readWhole : zEok zeX3_readWhole := ⟨by decide, zmg 526 rfl, zmt 2 rfl, ⟨by decide, by decide, by decide +kernel⟩, by decide, rfl, Or.inr (Or.inl ⟨rfl, rfl⟩), fun h => absurd h (by decide), fun _ => ⟨zmt 525 rfl, zmp 10 rfl, _, _, rfl⟩, fun h => absurd h (by decide), ⟨false, fun h => absurd h (by decide), zkX3_readWhole⟩, by decide, by decide⟩
set_option maxRecDepth 100000 in
theorem zoX3_readEither : zEok zeX3_readEither := ⟨by decide, zmg 546 rfl, zmt 2 rfl, ⟨by decide, by decide, by decide +kernel⟩, by decide, rfl, Or.inr (Or.inl ⟨rfl, rfl⟩), fun h => absurd h (by decide), fun _ => ⟨zmt 545 rfl, zmp 13 rfl, _, _, rfl⟩, fun h => absurd h (by decide), ⟨false, fun h => absurd h (by decide), zkX3_readEither⟩, by decide, by decide⟩
set_option maxRecDepth 100000 in
theorem zoX3_pass : zEok zeX3_pass := ⟨by decide, zmg 530 rfl, zmt 2 rfl, ⟨by decide, by decide, by decide +kernel⟩, by decide, rfl, Or.inl ⟨rfl, rfl⟩, fun h => absurd h (by decide), fun _ => ⟨zmt 529 rfl, zmp 11 rfl, _, _, rfl⟩, fun h => absurd h (by decide), ⟨false, fun h => absurd h (by decide), zkX3_pass⟩, by decide, by decide⟩
set_option maxRecDepth 100000 in
theorem zoX4_init : zEok zeX4_init := ⟨by decide, zmg 292 rfl, zmt 7 rfl, ⟨by decide, by decide, by decide +kernel⟩, by decide, rfl, Or.inl ⟨rfl, rfl⟩, fun h => absurd h (by decide), fun h => absurd h (by decide), fun _ => ⟨zmt 291 rfl, rfl, rfl⟩, ⟨true, fun _ => rfl, zkX4_init⟩, by decide, by decide⟩
set_option maxRecDepth 100000 in
theorem zoX4_stage : zEok zeX4_stage := ⟨by decide, zmg 733 rfl, zmt 7 rfl, ⟨by decide, by decide, by decide +kernel⟩, by decide, rfl, Or.inl ⟨rfl, rfl⟩, fun h => absurd h (by decide), fun _ => ⟨zmt 731 rfl, zmt 732 rfl, _, _, rfl⟩, fun h => absurd h (by decide), ⟨false, fun h => absurd h (by decide), zkX4_stage⟩, by decide, by decide⟩
set_option maxRecDepth 100000 in
theorem zoX4_keepBelow : zEok zeX4_keepBelow := ⟨by decide, zmg 876 rfl, zmt 7 rfl, ⟨by decide, by decide, by decide +kernel⟩, by decide, rfl, Or.inl ⟨rfl, rfl⟩, fun h => absurd h (by decide), fun _ => ⟨zmt 874 rfl, zmt 875 rfl, _, _, rfl⟩, fun h => absurd h (by decide), ⟨false, fun h => absurd h (by decide), zkX4_keepBelow⟩, by decide, by decide⟩
set_option maxRecDepth 100000 in
theorem zoX4_shareNewOnes : zEok zeX4_shareNewOnes := ⟨by decide, zmg 909 rfl, zmt 7 rfl, ⟨by decide, by decide, by decide +kernel⟩, by decide, rfl, Or.inr (Or.inr (Or.inl ⟨rfl, rfl⟩)), fun h => absurd h (by decide), fun _ => ⟨zmt 907 rfl, zmt 908 rfl, _, _, rfl⟩, fun h => absurd h (by decide), ⟨false, fun h => absurd h (by decide), zkX4_shareNewOnes⟩, by decide, by decide⟩
set_option maxRecDepth 100000 in
theorem zoX4_tabulate : zEok zeX4_tabulate := ⟨by decide, zmg 750 rfl, zmt 7 rfl, ⟨by decide, by decide, by decide +kernel⟩, by decide, rfl, Or.inl ⟨rfl, rfl⟩, fun h => absurd h (by decide), fun _ => ⟨zmt 748 rfl, zmt 749 rfl, _, _, rfl⟩, fun h => absurd h (by decide), ⟨false, fun h => absurd h (by decide), zkX4_tabulate⟩, by decide, by decide⟩
set_option maxRecDepth 100000 in
theorem zoX4_firstLike : zEok zeX4_firstLike := ⟨by decide, zmg 772 rfl, zmt 7 rfl, ⟨by decide, by decide, by decide +kernel⟩, by decide, rfl, Or.inr (Or.inl ⟨rfl, rfl⟩), fun h => absurd h (by decide), fun _ => ⟨zmt 771 rfl, zmp 30 rfl, _, _, rfl⟩, fun h => absurd h (by decide), ⟨false, fun h => absurd h (by decide), zkX4_firstLike⟩, by decide, by decide⟩
set_option maxRecDepth 100000 in
theorem zoX4_choosesAlike : zEok zeX4_choosesAlike := ⟨by decide, zmg 776 rfl, zmt 7 rfl, ⟨by decide, by decide, by decide +kernel⟩, by decide, rfl, Or.inr (Or.inr (Or.inl ⟨rfl, rfl⟩)), fun h => absurd h (by decide), fun _ => ⟨zmt 775 rfl, zmp 31 rfl, _, _, rfl⟩, fun h => absurd h (by decide), ⟨false, fun h => absurd h (by decide), zkX4_choosesAlike⟩, by decide, by decide⟩
set_option maxRecDepth 100000 in
theorem zoX4_actOf : zEok zeX4_actOf := ⟨by decide, zmg 758 rfl, zmt 7 rfl, ⟨by decide, by decide, by decide +kernel⟩, by decide, rfl, Or.inr (Or.inl ⟨rfl, rfl⟩), fun h => absurd h (by decide), fun _ => ⟨zmt 756 rfl, zmt 757 rfl, _, _, rfl⟩, fun h => absurd h (by decide), ⟨false, fun h => absurd h (by decide), zkX4_actOf⟩, by decide, by decide⟩
set_option maxRecDepth 100000 in
theorem zoX4_askAll : zEok zeX4_askAll := ⟨by decide, zmg 754 rfl, zmt 7 rfl, ⟨by decide, by decide, by decide +kernel⟩, by decide, rfl, Or.inl ⟨rfl, rfl⟩, fun h => absurd h (by decide), fun _ => ⟨zmt 753 rfl, zmp 29 rfl, _, _, rfl⟩, fun h => absurd h (by decide), ⟨false, fun h => absurd h (by decide), zkX4_askAll⟩, by decide, by decide⟩
set_option maxRecDepth 100000 in
theorem zoX4_settle : zEok zeX4_settle := ⟨by decide, zmg 780 rfl, zmt 7 rfl, ⟨by decide, by decide, by decide +kernel⟩, by decide, rfl, Or.inr (Or.inl ⟨rfl, rfl⟩), fun h => absurd h (by decide), fun _ => ⟨zmt 778 rfl, zmt 779 rfl, _, _, rfl⟩, fun h => absurd h (by decide), ⟨false, fun h => absurd h (by decide), zkX4_settle⟩, by decide, by decide⟩
set_option maxRecDepth 100000 in
theorem zoX4_weigh : zEok zeX4_weigh := ⟨by decide, zmg 784 rfl, zmt 7 rfl, ⟨by decide, by decide, by decide +kernel⟩, by decide, rfl, Or.inl ⟨rfl, rfl⟩, fun h => absurd h (by decide), fun _ => ⟨zmt 783 rfl, zmp 32 rfl, _, _, rfl⟩, fun h => absurd h (by decide), ⟨false, fun h => absurd h (by decide), zkX4_weigh⟩, by decide, by decide⟩
set_option maxRecDepth 100000 in
theorem zoX4_pull : zEok zeX4_pull := ⟨by decide, zmg 796 rfl, zmt 7 rfl, ⟨by decide, by decide, by decide +kernel⟩, by decide, rfl, Or.inr (Or.inr (Or.inr ⟨rfl, rfl⟩)), fun h => absurd h (by decide), fun _ => ⟨zmt 795 rfl, zmp 33 rfl, _, _, rfl⟩, fun h => absurd h (by decide), ⟨false, fun h => absurd h (by decide), zkX4_pull⟩, by decide, by decide⟩
set_option maxRecDepth 100000 in
theorem zoX4_follow : zEok zeX4_follow := ⟨by decide, zmg 855 rfl, zmt 7 rfl, ⟨by decide, by decide, by decide +kernel⟩, by decide, rfl, Or.inl ⟨rfl, rfl⟩, fun h => absurd h (by decide), fun _ => ⟨zmt 853 rfl, zmt 854 rfl, _, _, rfl⟩, fun h => absurd h (by decide), ⟨false, fun h => absurd h (by decide), zkX4_follow⟩, by decide, by decide⟩
set_option maxRecDepth 100000 in
theorem zoX4_anyLures : zEok zeX4_anyLures := ⟨by decide, zmg 914 rfl, zmt 7 rfl, ⟨by decide, by decide, by decide +kernel⟩, by decide, rfl, Or.inr (Or.inr (Or.inl ⟨rfl, rfl⟩)), fun h => absurd h (by decide), fun _ => ⟨zmt 912 rfl, zmt 913 rfl, _, _, rfl⟩, fun h => absurd h (by decide), ⟨false, fun h => absurd h (by decide), zkX4_anyLures⟩, by decide, by decide⟩
set_option maxRecDepth 100000 in
theorem zoX5_init : zEok zeX5_init := ⟨by decide, zmg 86 rfl, zmt 3 rfl, ⟨by decide, by decide, by decide +kernel⟩, by decide, rfl, Or.inl ⟨rfl, rfl⟩, fun h => absurd h (by decide), fun h => absurd h (by decide), fun _ => ⟨zmt 85 rfl, rfl, rfl⟩, ⟨true, fun _ => rfl, zkX5_init⟩, by decide, by decide⟩
set_option maxRecDepth 100000 in
theorem zoX5_copyOf : zEok zeX5_copyOf := ⟨by decide, zmg 564 rfl, zmt 3 rfl, ⟨by decide, by decide, by decide +kernel⟩, by decide, rfl, Or.inl ⟨rfl, rfl⟩, fun h => absurd h (by decide), fun _ => ⟨zmt 562 rfl, zmt 563 rfl, _, _, rfl⟩, fun h => absurd h (by decide), ⟨false, fun h => absurd h (by decide), zkX5_copyOf⟩, by decide, by decide⟩
set_option maxRecDepth 100000 in
theorem zoX5_obey : zEok zeX5_obey := ⟨by decide, zmg 738 rfl, zmt 3 rfl, ⟨by decide, by decide, by decide +kernel⟩, by decide, rfl, Or.inl ⟨rfl, rfl⟩, fun h => absurd h (by decide), fun _ => ⟨zmt 736 rfl, zmt 737 rfl, _, _, rfl⟩, fun h => absurd h (by decide), ⟨false, fun h => absurd h (by decide), zkX5_obey⟩, by decide, by decide⟩
set_option maxRecDepth 100000 in
theorem zoX5_acts : zEok zeX5_acts := ⟨by decide, zmg 725 rfl, zmt 3 rfl, ⟨by decide, by decide, by decide +kernel⟩, by decide, rfl, Or.inr (Or.inl ⟨rfl, rfl⟩), fun h => absurd h (by decide), fun _ => ⟨zmt 723 rfl, zmt 724 rfl, _, _, rfl⟩, fun h => absurd h (by decide), ⟨false, fun h => absurd h (by decide), zkX5_acts⟩, by decide, by decide⟩
set_option maxRecDepth 100000 in
theorem zoX5_oldStep : zEok zeX5_oldStep := ⟨by decide, zmg 762 rfl, zmt 3 rfl, ⟨by decide, by decide, by decide +kernel⟩, by decide, rfl, Or.inr (Or.inl ⟨rfl, rfl⟩), fun h => absurd h (by decide), fun _ => ⟨zmt 760 rfl, zmt 761 rfl, _, _, rfl⟩, fun h => absurd h (by decide), ⟨false, fun h => absurd h (by decide), zkX5_oldStep⟩, by decide, by decide⟩
set_option maxRecDepth 100000 in
theorem zoX5_newStep : zEok zeX5_newStep := ⟨by decide, zmg 766 rfl, zmt 3 rfl, ⟨by decide, by decide, by decide +kernel⟩, by decide, rfl, Or.inr (Or.inl ⟨rfl, rfl⟩), fun h => absurd h (by decide), fun _ => ⟨zmt 764 rfl, zmt 765 rfl, _, _, rfl⟩, fun h => absurd h (by decide), ⟨false, fun h => absurd h (by decide), zkX5_newStep⟩, by decide, by decide⟩
set_option maxRecDepth 100000 in
theorem zoX5_actOf : zEok zeX5_actOf := ⟨by decide, zmg 827 rfl, zmt 3 rfl, ⟨by decide, by decide, by decide +kernel⟩, by decide, rfl, Or.inr (Or.inl ⟨rfl, rfl⟩), fun h => absurd h (by decide), fun _ => ⟨zmt 825 rfl, zmt 826 rfl, _, _, rfl⟩, fun h => absurd h (by decide), ⟨false, fun h => absurd h (by decide), zkX5_actOf⟩, by decide, by decide⟩
set_option maxRecDepth 100000 in
theorem zoX6_init : zEok zeX6_init := ⟨by decide, zmg 182 rfl, zmt 4 rfl, ⟨by decide, by decide, by decide +kernel⟩, by decide, rfl, Or.inl ⟨rfl, rfl⟩, fun h => absurd h (by decide), fun h => absurd h (by decide), fun _ => ⟨zmt 181 rfl, rfl, rfl⟩, ⟨true, fun _ => rfl, zkX6_init⟩, by decide, by decide⟩
set_option maxRecDepth 100000 in
theorem zoX6_bringAsTold : zEok zeX6_bringAsTold := ⟨by decide, zmg 744 rfl, zmt 4 rfl, ⟨by decide, by decide, by decide +kernel⟩, by decide, rfl, Or.inl ⟨rfl, rfl⟩, fun h => absurd h (by decide), fun _ => ⟨zmt 742 rfl, zmt 743 rfl, _, _, rfl⟩, fun h => absurd h (by decide), ⟨false, fun h => absurd h (by decide), zkX6_bringAsTold⟩, by decide, by decide⟩
set_option maxRecDepth 100000 in
theorem zoX6_bring : zEok zeX6_bring := ⟨by decide, zmg 683 rfl, zmt 4 rfl, ⟨by decide, by decide, by decide +kernel⟩, by decide, rfl, Or.inr (Or.inr (Or.inl ⟨rfl, rfl⟩)), fun h => absurd h (by decide), fun _ => ⟨zmt 681 rfl, zmt 682 rfl, _, _, rfl⟩, fun h => absurd h (by decide), ⟨false, fun h => absurd h (by decide), zkX6_bring⟩, by decide, by decide⟩
set_option maxRecDepth 100000 in
theorem zoX6_pass : zEok zeX6_pass := ⟨by decide, zmg 687 rfl, zmt 4 rfl, ⟨by decide, by decide, by decide +kernel⟩, by decide, rfl, Or.inl ⟨rfl, rfl⟩, fun h => absurd h (by decide), fun _ => ⟨zmt 685 rfl, zmt 686 rfl, _, _, rfl⟩, fun h => absurd h (by decide), ⟨false, fun h => absurd h (by decide), zkX6_pass⟩, by decide, by decide⟩
set_option maxRecDepth 100000 in
theorem zoX6_move : zEok zeX6_move := ⟨by decide, zmg 695 rfl, zmt 4 rfl, ⟨by decide, by decide, by decide +kernel⟩, by decide, rfl, Or.inl ⟨rfl, rfl⟩, fun h => absurd h (by decide), fun _ => ⟨zmt 694 rfl, zmp 26 rfl, _, _, rfl⟩, fun h => absurd h (by decide), ⟨false, fun h => absurd h (by decide), zkX6_move⟩, by decide, by decide⟩
set_option maxRecDepth 100000 in
theorem zoX7_init : zEok zeX7_init := ⟨by decide, zmg 26 rfl, zmt 1 rfl, ⟨by decide, by decide, by decide +kernel⟩, by decide, rfl, Or.inl ⟨rfl, rfl⟩, fun h => absurd h (by decide), fun h => absurd h (by decide), fun _ => ⟨zmt 25 rfl, rfl, rfl⟩, ⟨true, fun _ => rfl, zkX7_init⟩, by decide, by decide⟩
set_option maxRecDepth 100000 in
theorem zoX7_feed : zEok zeX7_feed := ⟨by decide, zmg 421 rfl, zmt 1 rfl, ⟨by decide, by decide, by decide +kernel⟩, by decide, rfl, Or.inr (Or.inl ⟨rfl, rfl⟩), fun h => absurd h (by decide), fun _ => ⟨zmt 419 rfl, zmt 420 rfl, _, _, rfl⟩, fun h => absurd h (by decide), ⟨false, fun h => absurd h (by decide), zkX7_feed⟩, by decide, by decide⟩
set_option maxRecDepth 100000 in
theorem zoX7_putBytes : zEok zeX7_putBytes := ⟨by decide, zmg 425 rfl, zmt 1 rfl, ⟨by decide, by decide, by decide +kernel⟩, by decide, rfl, Or.inl ⟨rfl, rfl⟩, fun h => absurd h (by decide), fun _ => ⟨zmt 424 rfl, zmp 0 rfl, _, _, rfl⟩, fun h => absurd h (by decide), ⟨false, fun h => absurd h (by decide), zkX7_putBytes⟩, by decide, by decide⟩
set_option maxRecDepth 100000 in
theorem zoX7_town : zEok zeX7_town := ⟨by decide, zmg 429 rfl, zmt 1 rfl, ⟨by decide, by decide, by decide +kernel⟩, by decide, rfl, Or.inr (Or.inl ⟨rfl, rfl⟩), fun h => absurd h (by decide), fun _ => ⟨zmt 427 rfl, zmt 428 rfl, _, _, rfl⟩, fun h => absurd h (by decide), ⟨false, fun h => absurd h (by decide), zkX7_town⟩, by decide, by decide⟩
set_option maxRecDepth 100000 in
theorem zoX7_fault : zEok zeX7_fault := ⟨by decide, zmg 578 rfl, zmt 1 rfl, ⟨by decide, by decide, by decide +kernel⟩, by decide, rfl, Or.inr (Or.inl ⟨rfl, rfl⟩), fun h => absurd h (by decide), fun _ => ⟨zmt 576 rfl, zmt 577 rfl, _, _, rfl⟩, fun h => absurd h (by decide), ⟨false, fun h => absurd h (by decide), zkX7_fault⟩, by decide, by decide⟩
set_option maxRecDepth 100000 in
theorem zoX7_where : zEok zeX7_where := ⟨by decide, zmg 582 rfl, zmt 1 rfl, ⟨by decide, by decide, by decide +kernel⟩, by decide, rfl, Or.inr (Or.inl ⟨rfl, rfl⟩), fun h => absurd h (by decide), fun _ => ⟨zmt 580 rfl, zmt 581 rfl, _, _, rfl⟩, fun h => absurd h (by decide), ⟨false, fun h => absurd h (by decide), zkX7_where⟩, by decide, by decide⟩
set_option maxRecDepth 100000 in
theorem zoX7_hold : zEok zeX7_hold := ⟨by decide, zmg 586 rfl, zmt 1 rfl, ⟨by decide, by decide, by decide +kernel⟩, by decide, rfl, Or.inr (Or.inr (Or.inl ⟨rfl, rfl⟩)), fun h => absurd h (by decide), fun _ => ⟨zmt 584 rfl, zmt 585 rfl, _, _, rfl⟩, fun h => absurd h (by decide), ⟨false, fun h => absurd h (by decide), zkX7_hold⟩, by decide, by decide⟩
set_option maxRecDepth 100000 in
theorem zoX7_ask : zEok zeX7_ask := ⟨by decide, zmg 602 rfl, zmt 1 rfl, ⟨by decide, by decide, by decide +kernel⟩, by decide, rfl, Or.inr (Or.inr (Or.inl ⟨rfl, rfl⟩)), fun h => absurd h (by decide), fun _ => ⟨zmt 600 rfl, zmt 601 rfl, _, _, rfl⟩, fun h => absurd h (by decide), ⟨false, fun h => absurd h (by decide), zkX7_ask⟩, by decide, by decide⟩
set_option maxRecDepth 100000 in
theorem zoX7_choose : zEok zeX7_choose := ⟨by decide, zmg 614 rfl, zmt 1 rfl, ⟨by decide, by decide, by decide +kernel⟩, by decide, rfl, Or.inr (Or.inl ⟨rfl, rfl⟩), fun h => absurd h (by decide), fun _ => ⟨zmt 612 rfl, zmt 613 rfl, _, _, rfl⟩, fun h => absurd h (by decide), ⟨false, fun h => absurd h (by decide), zkX7_choose⟩, by decide, by decide⟩
set_option maxRecDepth 100000 in
theorem zoX7_has : zEok zeX7_has := ⟨by decide, zmg 653 rfl, zmt 1 rfl, ⟨by decide, by decide, by decide +kernel⟩, by decide, rfl, Or.inr (Or.inl ⟨rfl, rfl⟩), fun h => absurd h (by decide), fun _ => ⟨zmt 651 rfl, zmt 652 rfl, _, _, rfl⟩, fun h => absurd h (by decide), ⟨false, fun h => absurd h (by decide), zkX7_has⟩, by decide, by decide⟩
set_option maxRecDepth 100000 in
theorem zoX7_seed : zEok zeX7_seed := ⟨by decide, zmg 659 rfl, zmt 1 rfl, ⟨by decide, by decide, by decide +kernel⟩, by decide, rfl, Or.inr (Or.inr (Or.inl ⟨rfl, rfl⟩)), fun h => absurd h (by decide), fun _ => ⟨zmt 657 rfl, zmt 658 rfl, _, _, rfl⟩, fun h => absurd h (by decide), ⟨false, fun h => absurd h (by decide), zkX7_seed⟩, by decide, by decide⟩
set_option maxRecDepth 100000 in
theorem zoX7_go : zEok zeX7_go := ⟨by decide, zmg 668 rfl, zmt 1 rfl, ⟨by decide, by decide, by decide +kernel⟩, by decide, rfl, Or.inr (Or.inl ⟨rfl, rfl⟩), fun h => absurd h (by decide), fun _ => ⟨zmt 666 rfl, zmt 667 rfl, _, _, rfl⟩, fun h => absurd h (by decide), ⟨false, fun h => absurd h (by decide), zkX7_go⟩, by decide, by decide⟩
set_option maxRecDepth 100000 in
theorem zoX7_passYear : zEok zeX7_passYear := ⟨by decide, zmg 678 rfl, zmt 1 rfl, ⟨by decide, by decide, by decide +kernel⟩, by decide, rfl, Or.inr (Or.inl ⟨rfl, rfl⟩), fun h => absurd h (by decide), fun _ => ⟨zmt 677 rfl, zmp 25 rfl, _, _, rfl⟩, fun h => absurd h (by decide), ⟨false, fun h => absurd h (by decide), zkX7_passYear⟩, by decide, by decide⟩
set_option maxRecDepth 100000 in
theorem zoX7_again : zEok zeX7_again := ⟨by decide, zmg 704 rfl, zmt 1 rfl, ⟨by decide, by decide, by decide +kernel⟩, by decide, rfl, Or.inr (Or.inr (Or.inl ⟨rfl, rfl⟩)), fun h => absurd h (by decide), fun _ => ⟨zmt 702 rfl, zmt 703 rfl, _, _, rfl⟩, fun h => absurd h (by decide), ⟨false, fun h => absurd h (by decide), zkX7_again⟩, by decide, by decide⟩
set_option maxRecDepth 100000 in
theorem zoX7_held : zEok zeX7_held := ⟨by decide, zmg 708 rfl, zmt 1 rfl, ⟨by decide, by decide, by decide +kernel⟩, by decide, rfl, Or.inr (Or.inl ⟨rfl, rfl⟩), fun h => absurd h (by decide), fun _ => ⟨zmt 706 rfl, zmt 707 rfl, _, _, rfl⟩, fun h => absurd h (by decide), ⟨false, fun h => absurd h (by decide), zkX7_held⟩, by decide, by decide⟩
set_option maxRecDepth 100000 in
theorem zoX7_earned : zEok zeX7_earned := ⟨by decide, zmg 712 rfl, zmt 1 rfl, ⟨by decide, by decide, by decide +kernel⟩, by decide, rfl, Or.inr (Or.inr (Or.inr ⟨rfl, rfl⟩)), fun h => absurd h (by decide), fun _ => ⟨zmt 710 rfl, zmt 711 rfl, _, _, rfl⟩, fun h => absurd h (by decide), ⟨false, fun h => absurd h (by decide), zkX7_earned⟩, by decide, by decide⟩
set_option maxRecDepth 100000 in
theorem zoX7_rest : zEok zeX7_rest := ⟨by decide, zmg 717 rfl, zmt 1 rfl, ⟨by decide, by decide, by decide +kernel⟩, by decide, rfl, Or.inr (Or.inl ⟨rfl, rfl⟩), fun h => absurd h (by decide), fun _ => ⟨zmt 715 rfl, zmt 716 rfl, _, _, rfl⟩, fun h => absurd h (by decide), ⟨false, fun h => absurd h (by decide), zkX7_rest⟩, by decide, by decide⟩
set_option maxRecDepth 100000 in
theorem zoX7_act : zEok zeX7_act := ⟨by decide, zmg 806 rfl, zmt 1 rfl, ⟨by decide, by decide, by decide +kernel⟩, by decide, rfl, Or.inr (Or.inl ⟨rfl, rfl⟩), fun h => absurd h (by decide), fun _ => ⟨zmt 804 rfl, zmt 805 rfl, _, _, rfl⟩, fun h => absurd h (by decide), ⟨false, fun h => absurd h (by decide), zkX7_act⟩, by decide, by decide⟩
set_option maxRecDepth 100000 in
theorem zoX7_worth : zEok zeX7_worth := ⟨by decide, zmg 814 rfl, zmt 1 rfl, ⟨by decide, by decide, by decide +kernel⟩, by decide, rfl, Or.inr (Or.inr (Or.inr ⟨rfl, rfl⟩)), fun h => absurd h (by decide), fun _ => ⟨zmt 812 rfl, zmt 813 rfl, _, _, rfl⟩, fun h => absurd h (by decide), ⟨false, fun h => absurd h (by decide), zkX7_worth⟩, by decide, by decide⟩
set_option maxRecDepth 100000 in
theorem zoX7_gain : zEok zeX7_gain := ⟨by decide, zmg 818 rfl, zmt 1 rfl, ⟨by decide, by decide, by decide +kernel⟩, by decide, rfl, Or.inr (Or.inr (Or.inr ⟨rfl, rfl⟩)), fun h => absurd h (by decide), fun _ => ⟨zmt 816 rfl, zmt 817 rfl, _, _, rfl⟩, fun h => absurd h (by decide), ⟨false, fun h => absurd h (by decide), zkX7_gain⟩, by decide, by decide⟩
set_option maxRecDepth 100000 in
theorem zoX7_best : zEok zeX7_best := ⟨by decide, zmg 839 rfl, zmt 1 rfl, ⟨by decide, by decide, by decide +kernel⟩, by decide, rfl, Or.inr (Or.inl ⟨rfl, rfl⟩), fun h => absurd h (by decide), fun _ => ⟨zmt 837 rfl, zmt 838 rfl, _, _, rfl⟩, fun h => absurd h (by decide), ⟨false, fun h => absurd h (by decide), zkX7_best⟩, by decide, by decide⟩
set_option maxRecDepth 100000 in
theorem zoX7_bestAct : zEok zeX7_bestAct := ⟨by decide, zmg 835 rfl, zmt 1 rfl, ⟨by decide, by decide, by decide +kernel⟩, by decide, rfl, Or.inr (Or.inl ⟨rfl, rfl⟩), fun h => absurd h (by decide), fun _ => ⟨zmt 834 rfl, zmp 37 rfl, _, _, rfl⟩, fun h => absurd h (by decide), ⟨false, fun h => absurd h (by decide), zkX7_bestAct⟩, by decide, by decide⟩
set_option maxRecDepth 100000 in
theorem zoX7_earnedBy : zEok zeX7_earnedBy := ⟨by decide, zmg 831 rfl, zmt 1 rfl, ⟨by decide, by decide, by decide +kernel⟩, by decide, rfl, Or.inr (Or.inr (Or.inr ⟨rfl, rfl⟩)), fun h => absurd h (by decide), fun _ => ⟨zmt 830 rfl, zmp 36 rfl, _, _, rfl⟩, fun h => absurd h (by decide), ⟨false, fun h => absurd h (by decide), zkX7_earnedBy⟩, by decide, by decide⟩
set_option maxRecDepth 100000 in
theorem zoX7_paid : zEok zeX7_paid := ⟨by decide, zmg 843 rfl, zmt 1 rfl, ⟨by decide, by decide, by decide +kernel⟩, by decide, rfl, Or.inr (Or.inr (Or.inr ⟨rfl, rfl⟩)), fun h => absurd h (by decide), fun _ => ⟨zmt 841 rfl, zmt 842 rfl, _, _, rfl⟩, fun h => absurd h (by decide), ⟨false, fun h => absurd h (by decide), zkX7_paid⟩, by decide, by decide⟩
set_option maxRecDepth 100000 in
theorem zoX7_leavings : zEok zeX7_leavings := ⟨by decide, zmg 864 rfl, zmt 1 rfl, ⟨by decide, by decide, by decide +kernel⟩, by decide, rfl, Or.inr (Or.inr (Or.inr ⟨rfl, rfl⟩)), fun h => absurd h (by decide), fun _ => ⟨zmt 862 rfl, zmt 863 rfl, _, _, rfl⟩, fun h => absurd h (by decide), ⟨false, fun h => absurd h (by decide), zkX7_leavings⟩, by decide, by decide⟩
set_option maxRecDepth 100000 in
theorem zoX7_kindest : zEok zeX7_kindest := ⟨by decide, zmg 868 rfl, zmt 1 rfl, ⟨by decide, by decide, by decide +kernel⟩, by decide, rfl, Or.inr (Or.inl ⟨rfl, rfl⟩), fun h => absurd h (by decide), fun _ => ⟨zmt 866 rfl, zmt 867 rfl, _, _, rfl⟩, fun h => absurd h (by decide), ⟨false, fun h => absurd h (by decide), zkX7_kindest⟩, by decide, by decide⟩
set_option maxRecDepth 100000 in
theorem zoX7_paidByLaw : zEok zeX7_paidByLaw := ⟨by decide, zmg 851 rfl, zmt 1 rfl, ⟨by decide, by decide, by decide +kernel⟩, by decide, rfl, Or.inr (Or.inr (Or.inr ⟨rfl, rfl⟩)), fun h => absurd h (by decide), fun _ => ⟨zmt 850 rfl, zmp 39 rfl, _, _, rfl⟩, fun h => absurd h (by decide), ⟨false, fun h => absurd h (by decide), zkX7_paidByLaw⟩, by decide, by decide⟩
set_option maxRecDepth 100000 in
theorem zoX7_promise : zEok zeX7_promise := ⟨by decide, zmg 872 rfl, zmt 1 rfl, ⟨by decide, by decide, by decide +kernel⟩, by decide, rfl, Or.inr (Or.inr (Or.inr ⟨rfl, rfl⟩)), fun h => absurd h (by decide), fun _ => ⟨zmt 870 rfl, zmt 871 rfl, _, _, rfl⟩, fun h => absurd h (by decide), ⟨false, fun h => absurd h (by decide), zkX7_promise⟩, by decide, by decide⟩
set_option maxRecDepth 100000 in
theorem zoX7_shape : zEok zeX7_shape := ⟨by decide, zmg 885 rfl, zmt 1 rfl, ⟨by decide, by decide, by decide +kernel⟩, by decide, rfl, Or.inr (Or.inr (Or.inr ⟨rfl, rfl⟩)), fun h => absurd h (by decide), fun _ => ⟨zmt 883 rfl, zmt 884 rfl, _, _, rfl⟩, fun h => absurd h (by decide), ⟨false, fun h => absurd h (by decide), zkX7_shape⟩, by decide, by decide⟩
set_option maxRecDepth 100000 in
theorem zoX7_fit : zEok zeX7_fit := ⟨by decide, zmg 893 rfl, zmt 1 rfl, ⟨by decide, by decide, by decide +kernel⟩, by decide, rfl, Or.inr (Or.inl ⟨rfl, rfl⟩), fun h => absurd h (by decide), fun _ => ⟨zmt 891 rfl, zmt 892 rfl, _, _, rfl⟩, fun h => absurd h (by decide), ⟨false, fun h => absurd h (by decide), zkX7_fit⟩, by decide, by decide⟩
set_option maxRecDepth 100000 in
theorem zoX7_worthOfShape : zEok zeX7_worthOfShape := ⟨by decide, zmg 889 rfl, zmt 1 rfl, ⟨by decide, by decide, by decide +kernel⟩, by decide, rfl, Or.inr (Or.inr (Or.inr ⟨rfl, rfl⟩)), fun h => absurd h (by decide), fun _ => ⟨zmt 888 rfl, zmp 41 rfl, _, _, rfl⟩, fun h => absurd h (by decide), ⟨false, fun h => absurd h (by decide), zkX7_worthOfShape⟩, by decide, by decide⟩
set_option maxRecDepth 100000 in
theorem zoX7_late : zEok zeX7_late := ⟨by decide, zmg 897 rfl, zmt 1 rfl, ⟨by decide, by decide, by decide +kernel⟩, by decide, rfl, Or.inr (Or.inl ⟨rfl, rfl⟩), fun h => absurd h (by decide), fun _ => ⟨zmt 895 rfl, zmt 896 rfl, _, _, rfl⟩, fun h => absurd h (by decide), ⟨false, fun h => absurd h (by decide), zkX7_late⟩, by decide, by decide⟩
set_option maxRecDepth 100000 in
theorem zoX7_lures : zEok zeX7_lures := ⟨by decide, zmg 901 rfl, zmt 1 rfl, ⟨by decide, by decide, by decide +kernel⟩, by decide, rfl, Or.inr (Or.inl ⟨rfl, rfl⟩), fun h => absurd h (by decide), fun _ => ⟨zmt 899 rfl, zmt 900 rfl, _, _, rfl⟩, fun h => absurd h (by decide), ⟨false, fun h => absurd h (by decide), zkX7_lures⟩, by decide, by decide⟩
set_option maxRecDepth 100000 in
theorem zoX7_edge : zEok zeX7_edge := ⟨by decide, zmg 905 rfl, zmt 1 rfl, ⟨by decide, by decide, by decide +kernel⟩, by decide, rfl, Or.inr (Or.inl ⟨rfl, rfl⟩), fun h => absurd h (by decide), fun _ => ⟨zmt 903 rfl, zmt 904 rfl, _, _, rfl⟩, fun h => absurd h (by decide), ⟨false, fun h => absurd h (by decide), zkX7_edge⟩, by decide, by decide⟩
set_option maxRecDepth 100000 in
theorem zoX7_change : zEok zeX7_change := ⟨by decide, zmg 918 rfl, zmt 1 rfl, ⟨by decide, by decide, by decide +kernel⟩, by decide, rfl, Or.inr (Or.inl ⟨rfl, rfl⟩), fun h => absurd h (by decide), fun _ => ⟨zmt 916 rfl, zmt 917 rfl, _, _, rfl⟩, fun h => absurd h (by decide), ⟨false, fun h => absurd h (by decide), zkX7_change⟩, by decide, by decide⟩
set_option maxRecDepth 100000 in
theorem zoX7_size : zEok zeX7_size := ⟨by decide, zmg 922 rfl, zmt 1 rfl, ⟨by decide, by decide, by decide +kernel⟩, by decide, rfl, Or.inr (Or.inl ⟨rfl, rfl⟩), fun h => absurd h (by decide), fun _ => ⟨zmt 920 rfl, zmt 921 rfl, _, _, rfl⟩, fun h => absurd h (by decide), ⟨false, fun h => absurd h (by decide), zkX7_size⟩, by decide, by decide⟩
set_option maxRecDepth 100000 in
theorem zoX7_baker : zEok zeX7_baker := ⟨by decide, zmg 926 rfl, zmt 1 rfl, ⟨by decide, by decide, by decide +kernel⟩, by decide, rfl, Or.inr (Or.inl ⟨rfl, rfl⟩), fun h => absurd h (by decide), fun _ => ⟨zmt 924 rfl, zmt 925 rfl, _, _, rfl⟩, fun h => absurd h (by decide), ⟨false, fun h => absurd h (by decide), zkX7_baker⟩, by decide, by decide⟩
set_option maxRecDepth 100000 in
theorem zoX7_sort : zEok zeX7_sort := ⟨by decide, zmg 930 rfl, zmt 1 rfl, ⟨by decide, by decide, by decide +kernel⟩, by decide, rfl, Or.inr (Or.inl ⟨rfl, rfl⟩), fun h => absurd h (by decide), fun _ => ⟨zmt 928 rfl, zmt 929 rfl, _, _, rfl⟩, fun h => absurd h (by decide), ⟨false, fun h => absurd h (by decide), zkX7_sort⟩, by decide, by decide⟩
set_option maxRecDepth 100000 in
theorem zoX7_trouble : zEok zeX7_trouble := ⟨by decide, zmg 934 rfl, zmt 1 rfl, ⟨by decide, by decide, by decide +kernel⟩, by decide, rfl, Or.inr (Or.inl ⟨rfl, rfl⟩), fun h => absurd h (by decide), fun _ => ⟨zmt 932 rfl, zmt 933 rfl, _, _, rfl⟩, fun h => absurd h (by decide), ⟨false, fun h => absurd h (by decide), zkX7_trouble⟩, by decide, by decide⟩
set_option maxRecDepth 100000 in
theorem zoX7_isTown : zEok zeX7_isTown := ⟨by decide, zmg 663 rfl, zmt 1 rfl, ⟨by decide, by decide, by decide +kernel⟩, by decide, rfl, Or.inr (Or.inr (Or.inl ⟨rfl, rfl⟩)), fun h => absurd h (by decide), fun _ => ⟨zmt 662 rfl, zmp 24 rfl, _, _, rfl⟩, fun h => absurd h (by decide), ⟨false, fun h => absurd h (by decide), zkX7_isTown⟩, by decide, by decide⟩
set_option maxRecDepth 100000 in
theorem zoX7_isBaker : zEok zeX7_isBaker := ⟨by decide, zmg 590 rfl, zmt 1 rfl, ⟨by decide, by decide, by decide +kernel⟩, by decide, rfl, Or.inr (Or.inr (Or.inl ⟨rfl, rfl⟩)), fun h => absurd h (by decide), fun _ => ⟨zmt 589 rfl, zmp 17 rfl, _, _, rfl⟩, fun h => absurd h (by decide), ⟨false, fun h => absurd h (by decide), zkX7_isBaker⟩, by decide, by decide⟩
set_option maxRecDepth 100000 in
theorem zoX7_isSort : zEok zeX7_isSort := ⟨by decide, zmg 594 rfl, zmt 1 rfl, ⟨by decide, by decide, by decide +kernel⟩, by decide, rfl, Or.inr (Or.inr (Or.inl ⟨rfl, rfl⟩)), fun h => absurd h (by decide), fun _ => ⟨zmt 593 rfl, zmp 18 rfl, _, _, rfl⟩, fun h => absurd h (by decide), ⟨false, fun h => absurd h (by decide), zkX7_isSort⟩, by decide, by decide⟩
set_option maxRecDepth 100000 in
theorem zoX7_isStep : zEok zeX7_isStep := ⟨by decide, zmg 606 rfl, zmt 1 rfl, ⟨by decide, by decide, by decide +kernel⟩, by decide, rfl, Or.inr (Or.inr (Or.inl ⟨rfl, rfl⟩)), fun h => absurd h (by decide), fun _ => ⟨zmt 605 rfl, zmp 19 rfl, _, _, rfl⟩, fun h => absurd h (by decide), ⟨false, fun h => absurd h (by decide), zkX7_isStep⟩, by decide, by decide⟩
set_option maxRecDepth 100000 in
theorem zoX7_isLaw : zEok zeX7_isLaw := ⟨by decide, zmg 847 rfl, zmt 1 rfl, ⟨by decide, by decide, by decide +kernel⟩, by decide, rfl, Or.inr (Or.inr (Or.inl ⟨rfl, rfl⟩)), fun h => absurd h (by decide), fun _ => ⟨zmt 846 rfl, zmp 38 rfl, _, _, rfl⟩, fun h => absurd h (by decide), ⟨false, fun h => absurd h (by decide), zkX7_isLaw⟩, by decide, by decide⟩
set_option maxRecDepth 100000 in
theorem zoX7_isBuyer : zEok zeX7_isBuyer := ⟨by decide, zmg 618 rfl, zmt 1 rfl, ⟨by decide, by decide, by decide +kernel⟩, by decide, rfl, Or.inr (Or.inr (Or.inl ⟨rfl, rfl⟩)), fun h => absurd h (by decide), fun _ => ⟨zmt 617 rfl, zmp 20 rfl, _, _, rfl⟩, fun h => absurd h (by decide), ⟨false, fun h => absurd h (by decide), zkX7_isBuyer⟩, by decide, by decide⟩
set_option maxRecDepth 100000 in
theorem zoX7_home : zEok zeX7_home := ⟨by decide, zmg 645 rfl, zmt 1 rfl, ⟨by decide, by decide, by decide +kernel⟩, by decide, rfl, Or.inr (Or.inl ⟨rfl, rfl⟩), fun h => absurd h (by decide), fun _ => ⟨zmt 644 rfl, zmp 23 rfl, _, _, rfl⟩, fun h => absurd h (by decide), ⟨false, fun h => absurd h (by decide), zkX7_home⟩, by decide, by decide⟩
set_option maxRecDepth 100000 in
theorem zoX7_troubleAhead : zEok zeX7_troubleAhead := ⟨by decide, zmg 721 rfl, zmt 1 rfl, ⟨by decide, by decide, by decide +kernel⟩, by decide, rfl, Or.inr (Or.inl ⟨rfl, rfl⟩), fun h => absurd h (by decide), fun _ => ⟨zmt 720 rfl, zmp 27 rfl, _, _, rfl⟩, fun h => absurd h (by decide), ⟨false, fun h => absurd h (by decide), zkX7_troubleAhead⟩, by decide, by decide⟩
set_option maxRecDepth 100000 in
theorem zoX7_troubleOfOutcome : zEok zeX7_troubleOfOutcome := ⟨by decide, zmg 810 rfl, zmt 1 rfl, ⟨by decide, by decide, by decide +kernel⟩, by decide, rfl, Or.inr (Or.inl ⟨rfl, rfl⟩), fun h => absurd h (by decide), fun _ => ⟨zmt 809 rfl, zmp 34 rfl, _, _, rfl⟩, fun h => absurd h (by decide), ⟨false, fun h => absurd h (by decide), zkX7_troubleOfOutcome⟩, by decide, by decide⟩
set_option maxRecDepth 100000 in
theorem zoX7_openMarket : zEok zeX7_openMarket := ⟨by decide, zmg 622 rfl, zmt 1 rfl, ⟨by decide, by decide, by decide +kernel⟩, by decide, rfl, Or.inl ⟨rfl, rfl⟩, fun h => absurd h (by decide), fun _ => ⟨zmt 621 rfl, zmp 21 rfl, _, _, rfl⟩, fun h => absurd h (by decide), ⟨false, fun h => absurd h (by decide), zkX7_openMarket⟩, by decide, by decide⟩
set_option maxRecDepth 100000 in
theorem zoX7_openYear : zEok zeX7_openYear := ⟨by decide, zmg 822 rfl, zmt 1 rfl, ⟨by decide, by decide, by decide +kernel⟩, by decide, rfl, Or.inl ⟨rfl, rfl⟩, fun h => absurd h (by decide), fun _ => ⟨zmt 821 rfl, zmp 35 rfl, _, _, rfl⟩, fun h => absurd h (by decide), ⟨false, fun h => absurd h (by decide), zkX7_openYear⟩, by decide, by decide⟩
set_option maxRecDepth 100000 in
theorem zoX7_stage : zEok zeX7_stage := ⟨by decide, zmg 729 rfl, zmt 1 rfl, ⟨by decide, by decide, by decide +kernel⟩, by decide, rfl, Or.inl ⟨rfl, rfl⟩, fun h => absurd h (by decide), fun _ => ⟨zmt 728 rfl, zmp 28 rfl, _, _, rfl⟩, fun h => absurd h (by decide), ⟨false, fun h => absurd h (by decide), zkX7_stage⟩, by decide, by decide⟩
set_option maxRecDepth 100000 in
theorem zoX7_worthAtRest : zEok zeX7_worthAtRest := ⟨by decide, zmg 881 rfl, zmt 1 rfl, ⟨by decide, by decide, by decide +kernel⟩, by decide, rfl, Or.inr (Or.inr (Or.inr ⟨rfl, rfl⟩)), fun h => absurd h (by decide), fun _ => ⟨zmt 880 rfl, zmp 40 rfl, _, _, rfl⟩, fun h => absurd h (by decide), ⟨false, fun h => absurd h (by decide), zkX7_worthAtRest⟩, by decide, by decide⟩
set_option maxRecDepth 100000 in
theorem zoX8_init : zEok zeX8_init := ⟨by decide, zmg 1194 rfl, zmt 16 rfl, ⟨by decide, by decide, by decide +kernel⟩, by decide, rfl, Or.inl ⟨rfl, rfl⟩, fun h => absurd h (by decide), fun h => absurd h (by decide), fun _ => ⟨zmt 1193 rfl, rfl, rfl⟩, ⟨true, fun _ => rfl, zkX8_init⟩, by decide, by decide⟩
set_option maxRecDepth 100000 in
theorem zoX8_isTold : zEok zeX8_isTold := ⟨by decide, zmg 1313 rfl, zmt 16 rfl, ⟨by decide, by decide, by decide +kernel⟩, by decide, rfl, Or.inr (Or.inr (Or.inl ⟨rfl, rfl⟩)), fun h => absurd h (by decide), fun _ => ⟨zmt 1311 rfl, zmt 1312 rfl, _, _, rfl⟩, fun h => absurd h (by decide), ⟨false, fun h => absurd h (by decide), zkX8_isTold⟩, by decide, by decide⟩
set_option maxRecDepth 100000 in
theorem zoX9_init : zEok zeX9_init := ⟨by decide, zmg 1012 rfl, zmt 9 rfl, ⟨by decide, by decide, by decide +kernel⟩, by decide, rfl, Or.inl ⟨rfl, rfl⟩, fun h => absurd h (by decide), fun h => absurd h (by decide), fun _ => ⟨zmt 1011 rfl, rfl, rfl⟩, ⟨true, fun _ => rfl, zkX9_init⟩, by decide, by decide⟩
set_option maxRecDepth 100000 in
theorem zoX9_thrown : zEok zeX9_thrown := ⟨by decide, zmg 1177 rfl, zmt 9 rfl, ⟨by decide, by decide, by decide +kernel⟩, by decide, rfl, Or.inr (Or.inl ⟨rfl, rfl⟩), fun h => absurd h (by decide), fun _ => ⟨zmt 1175 rfl, zmt 1176 rfl, _, _, rfl⟩, fun h => absurd h (by decide), ⟨false, fun h => absurd h (by decide), zkX9_thrown⟩, by decide, by decide⟩
set_option maxRecDepth 100000 in
theorem zoX9_refused : zEok zeX9_refused := ⟨by decide, zmg 1189 rfl, zmt 9 rfl, ⟨by decide, by decide, by decide +kernel⟩, by decide, rfl, Or.inr (Or.inl ⟨rfl, rfl⟩), fun h => absurd h (by decide), fun _ => ⟨zmt 1188 rfl, zmp 43 rfl, _, _, rfl⟩, fun h => absurd h (by decide), ⟨false, fun h => absurd h (by decide), zkX9_refused⟩, by decide, by decide⟩
set_option maxRecDepth 100000 in
theorem zoX9_lost : zEok zeX9_lost := ⟨by decide, zmg 1485 rfl, zmt 9 rfl, ⟨by decide, by decide, by decide +kernel⟩, by decide, rfl, Or.inr (Or.inr (Or.inr ⟨rfl, rfl⟩)), fun h => absurd h (by decide), fun _ => ⟨zmt 1484 rfl, zmp 79 rfl, _, _, rfl⟩, fun h => absurd h (by decide), ⟨false, fun h => absurd h (by decide), zkX9_lost⟩, by decide, by decide⟩
set_option maxRecDepth 100000 in
theorem zoX9_denied : zEok zeX9_denied := ⟨by decide, zmg 1379 rfl, zmt 9 rfl, ⟨by decide, by decide, by decide +kernel⟩, by decide, rfl, Or.inr (Or.inr (Or.inl ⟨rfl, rfl⟩)), fun h => absurd h (by decide), fun _ => ⟨zmt 1378 rfl, zmp 62 rfl, _, _, rfl⟩, fun h => absurd h (by decide), ⟨false, fun h => absurd h (by decide), zkX9_denied⟩, by decide, by decide⟩
set_option maxRecDepth 100000 in
theorem zoX9_done : zEok zeX9_done := ⟨by decide, zmg 1355 rfl, zmt 9 rfl, ⟨by decide, by decide, by decide +kernel⟩, by decide, rfl, Or.inr (Or.inl ⟨rfl, rfl⟩), fun h => absurd h (by decide), fun _ => ⟨zmt 1354 rfl, zmp 59 rfl, _, _, rfl⟩, fun h => absurd h (by decide), ⟨false, fun h => absurd h (by decide), zkX9_done⟩, by decide, by decide⟩
set_option maxRecDepth 100000 in
theorem zoX9_told : zEok zeX9_told := ⟨by decide, zmg 1481 rfl, zmt 9 rfl, ⟨by decide, by decide, by decide +kernel⟩, by decide, rfl, Or.inr (Or.inr (Or.inr ⟨rfl, rfl⟩)), fun h => absurd h (by decide), fun _ => ⟨zmt 1480 rfl, zmp 78 rfl, _, _, rfl⟩, fun h => absurd h (by decide), ⟨false, fun h => absurd h (by decide), zkX9_told⟩, by decide, by decide⟩
set_option maxRecDepth 100000 in
theorem zoX9_granted : zEok zeX9_granted := ⟨by decide, zmg 1386 rfl, zmt 9 rfl, ⟨by decide, by decide, by decide +kernel⟩, by decide, rfl, Or.inr (Or.inr (Or.inl ⟨rfl, rfl⟩)), fun h => absurd h (by decide), fun _ => ⟨zmt 1385 rfl, zmp 63 rfl, _, _, rfl⟩, fun h => absurd h (by decide), ⟨false, fun h => absurd h (by decide), zkX9_granted⟩, by decide, by decide⟩
set_option maxRecDepth 100000 in
theorem zoX9_in : zEok zeX9_in := ⟨by decide, zmg 1325 rfl, zmt 9 rfl, ⟨by decide, by decide, by decide +kernel⟩, by decide, rfl, Or.inr (Or.inr (Or.inl ⟨rfl, rfl⟩)), fun _ => zmt 1324 rfl, fun h => absurd h (by decide), fun h => absurd h (by decide), ⟨false, fun h => absurd h (by decide), zkX9_in⟩, by decide, by decide⟩
set_option maxRecDepth 100000 in
theorem zoX9_byteAt : zEok zeX9_byteAt := ⟨by decide, zmg 1265 rfl, zmt 9 rfl, ⟨by decide, by decide, by decide +kernel⟩, by decide, rfl, Or.inr (Or.inl ⟨rfl, rfl⟩), fun h => absurd h (by decide), fun _ => ⟨zmt 1264 rfl, zmp 45 rfl, _, _, rfl⟩, fun h => absurd h (by decide), ⟨false, fun h => absurd h (by decide), zkX9_byteAt⟩, by decide, by decide⟩
set_option maxRecDepth 100000 in
theorem zoX9_isLetter : zEok zeX9_isLetter := ⟨by decide, zmg 1268 rfl, zmt 9 rfl, ⟨by decide, by decide, by decide +kernel⟩, by decide, rfl, Or.inr (Or.inr (Or.inl ⟨rfl, rfl⟩)), fun _ => zmt 1267 rfl, fun h => absurd h (by decide), fun h => absurd h (by decide), ⟨false, fun h => absurd h (by decide), zkX9_isLetter⟩, by decide, by decide⟩
set_option maxRecDepth 100000 in
theorem zoX9_isDigit : zEok zeX9_isDigit := ⟨by decide, zmg 1272 rfl, zmt 9 rfl, ⟨by decide, by decide, by decide +kernel⟩, by decide, rfl, Or.inr (Or.inr (Or.inl ⟨rfl, rfl⟩)), fun _ => zmt 1271 rfl, fun h => absurd h (by decide), fun h => absurd h (by decide), ⟨false, fun h => absurd h (by decide), zkX9_isDigit⟩, by decide, by decide⟩
set_option maxRecDepth 100000 in
theorem zoX9_wordOf : zEok zeX9_wordOf := ⟨by decide, zmg 1288 rfl, zmt 9 rfl, ⟨by decide, by decide, by decide +kernel⟩, by decide, rfl, Or.inr (Or.inr (Or.inr ⟨rfl, rfl⟩)), fun _ => zmt 1287 rfl, fun h => absurd h (by decide), fun h => absurd h (by decide), ⟨false, fun h => absurd h (by decide), zkX9_wordOf⟩, by decide, by decide⟩
set_option maxRecDepth 100000 in
theorem zoX9_goesOn : zEok zeX9_goesOn := ⟨by decide, zmg 1261 rfl, zmt 9 rfl, ⟨by decide, by decide, by decide +kernel⟩, by decide, rfl, Or.inl ⟨rfl, rfl⟩, fun h => absurd h (by decide), fun _ => ⟨zmt 1260 rfl, zmp 44 rfl, _, _, rfl⟩, fun h => absurd h (by decide), ⟨false, fun h => absurd h (by decide), zkX9_goesOn⟩, by decide, by decide⟩
set_option maxRecDepth 100000 in
theorem zoX9_wrong : zEok zeX9_wrong := ⟨by decide, zmg 1302 rfl, zmt 9 rfl, ⟨by decide, by decide, by decide +kernel⟩, by decide, rfl, Or.inl ⟨rfl, rfl⟩, fun h => absurd h (by decide), fun _ => ⟨zmt 1301 rfl, zmp 51 rfl, _, _, rfl⟩, fun h => absurd h (by decide), ⟨false, fun h => absurd h (by decide), zkX9_wrong⟩, by decide, by decide⟩
set_option maxRecDepth 100000 in
theorem zoX9_wrongHere : zEok zeX9_wrongHere := ⟨by decide, zmg 1306 rfl, zmt 9 rfl, ⟨by decide, by decide, by decide +kernel⟩, by decide, rfl, Or.inl ⟨rfl, rfl⟩, fun h => absurd h (by decide), fun _ => ⟨zmt 1305 rfl, zmp 52 rfl, _, _, rfl⟩, fun h => absurd h (by decide), ⟨false, fun h => absurd h (by decide), zkX9_wrongHere⟩, by decide, by decide⟩
set_option maxRecDepth 100000 in
theorem zoX9_isWord : zEok zeX9_isWord := ⟨by decide, zmg 1285 rfl, zmt 9 rfl, ⟨by decide, by decide, by decide +kernel⟩, by decide, rfl, Or.inr (Or.inr (Or.inl ⟨rfl, rfl⟩)), fun h => absurd h (by decide), fun _ => ⟨zmt 1284 rfl, zmp 48 rfl, _, _, rfl⟩, fun h => absurd h (by decide), ⟨false, fun h => absurd h (by decide), zkX9_isWord⟩, by decide, by decide⟩
set_option maxRecDepth 100000 in
theorem zoX9_eatsSign : zEok zeX9_eatsSign := ⟨by decide, zmg 1347 rfl, zmt 9 rfl, ⟨by decide, by decide, by decide +kernel⟩, by decide, rfl, Or.inr (Or.inr (Or.inl ⟨rfl, rfl⟩)), fun h => absurd h (by decide), fun _ => ⟨zmt 1346 rfl, zmp 57 rfl, _, _, rfl⟩, fun h => absurd h (by decide), ⟨false, fun h => absurd h (by decide), zkX9_eatsSign⟩, by decide, by decide⟩
set_option maxRecDepth 100000 in
theorem zoX9_readWhole : zEok zeX9_readWhole := ⟨by decide, zmg 1322 rfl, zmt 9 rfl, ⟨by decide, by decide, by decide +kernel⟩, by decide, rfl, Or.inr (Or.inl ⟨rfl, rfl⟩), fun h => absurd h (by decide), fun _ => ⟨zmt 1321 rfl, zmp 54 rfl, _, _, rfl⟩, fun h => absurd h (by decide), ⟨false, fun h => absurd h (by decide), zkX9_readWhole⟩, by decide, by decide⟩
set_option maxRecDepth 100000 in
theorem zoX9_readPart : zEok zeX9_readPart := ⟨by decide, zmg 1318 rfl, zmt 9 rfl, ⟨by decide, by decide, by decide +kernel⟩, by decide, rfl, Or.inr (Or.inl ⟨rfl, rfl⟩), fun h => absurd h (by decide), fun _ => ⟨zmt 1317 rfl, zmp 53 rfl, _, _, rfl⟩, fun h => absurd h (by decide), ⟨false, fun h => absurd h (by decide), zkX9_readPart⟩, by decide, by decide⟩
set_option maxRecDepth 100000 in
theorem zoX9_readTown : zEok zeX9_readTown := ⟨by decide, zmg 1276 rfl, zmt 9 rfl, ⟨by decide, by decide, by decide +kernel⟩, by decide, rfl, Or.inl ⟨rfl, rfl⟩, fun h => absurd h (by decide), fun _ => ⟨zmt 1275 rfl, zmp 46 rfl, _, _, rfl⟩, fun h => absurd h (by decide), ⟨false, fun h => absurd h (by decide), zkX9_readTown⟩, by decide, by decide⟩
set_option maxRecDepth 100000 in
theorem zoX9_readLine : zEok zeX9_readLine := ⟨by decide, zmg 1280 rfl, zmt 9 rfl, ⟨by decide, by decide, by decide +kernel⟩, by decide, rfl, Or.inl ⟨rfl, rfl⟩, fun h => absurd h (by decide), fun _ => ⟨zmt 1279 rfl, zmp 47 rfl, _, _, rfl⟩, fun h => absurd h (by decide), ⟨false, fun h => absurd h (by decide), zkX9_readLine⟩, by decide, by decide⟩
set_option maxRecDepth 100000 in
theorem zoX9_readNamed : zEok zeX9_readNamed := ⟨by decide, zmg 1298 rfl, zmt 9 rfl, ⟨by decide, by decide, by decide +kernel⟩, by decide, rfl, Or.inl ⟨rfl, rfl⟩, fun h => absurd h (by decide), fun _ => ⟨zmt 1297 rfl, zmp 50 rfl, _, _, rfl⟩, fun h => absurd h (by decide), ⟨false, fun h => absurd h (by decide), zkX9_readNamed⟩, by decide, by decide⟩
set_option maxRecDepth 100000 in
theorem zoX9_readBaker : zEok zeX9_readBaker := ⟨by decide, zmg 1294 rfl, zmt 9 rfl, ⟨by decide, by decide, by decide +kernel⟩, by decide, rfl, Or.inl ⟨rfl, rfl⟩, fun h => absurd h (by decide), fun _ => ⟨zmt 1293 rfl, zmp 49 rfl, _, _, rfl⟩, fun h => absurd h (by decide), ⟨false, fun h => absurd h (by decide), zkX9_readBaker⟩, by decide, by decide⟩
set_option maxRecDepth 100000 in
theorem zoX9_readSort : zEok zeX9_readSort := ⟨by decide, zmg 1331 rfl, zmt 9 rfl, ⟨by decide, by decide, by decide +kernel⟩, by decide, rfl, Or.inl ⟨rfl, rfl⟩, fun h => absurd h (by decide), fun _ => ⟨zmt 1330 rfl, zmp 55 rfl, _, _, rfl⟩, fun h => absurd h (by decide), ⟨false, fun h => absurd h (by decide), zkX9_readSort⟩, by decide, by decide⟩
set_option maxRecDepth 100000 in
theorem zoX9_readPrices : zEok zeX9_readPrices := ⟨by decide, zmg 1341 rfl, zmt 9 rfl, ⟨by decide, by decide, by decide +kernel⟩, by decide, rfl, Or.inl ⟨rfl, rfl⟩, fun h => absurd h (by decide), fun _ => ⟨zmt 1340 rfl, zmp 56 rfl, _, _, rfl⟩, fun h => absurd h (by decide), ⟨false, fun h => absurd h (by decide), zkX9_readPrices⟩, by decide, by decide⟩
set_option maxRecDepth 100000 in
theorem zoX9_readKeep : zEok zeX9_readKeep := ⟨by decide, zmg 1351 rfl, zmt 9 rfl, ⟨by decide, by decide, by decide +kernel⟩, by decide, rfl, Or.inl ⟨rfl, rfl⟩, fun h => absurd h (by decide), fun _ => ⟨zmt 1350 rfl, zmp 58 rfl, _, _, rfl⟩, fun h => absurd h (by decide), ⟨false, fun h => absurd h (by decide), zkX9_readKeep⟩, by decide, by decide⟩
set_option maxRecDepth 100000 in
theorem zoX9_feed : zEok zeX9_feed := ⟨by decide, zmg 1181 rfl, zmt 9 rfl, ⟨by decide, by decide, by decide +kernel⟩, by decide, rfl, Or.inr (Or.inl ⟨rfl, rfl⟩), fun h => absurd h (by decide), fun _ => ⟨zmt 1179 rfl, zmt 1180 rfl, _, _, rfl⟩, fun h => absurd h (by decide), ⟨false, fun h => absurd h (by decide), zkX9_feed⟩, by decide, by decide⟩
set_option maxRecDepth 100000 in
theorem zoX9_town : zEok zeX9_town := ⟨by decide, zmg 1185 rfl, zmt 9 rfl, ⟨by decide, by decide, by decide +kernel⟩, by decide, rfl, Or.inr (Or.inl ⟨rfl, rfl⟩), fun h => absurd h (by decide), fun _ => ⟨zmt 1183 rfl, zmt 1184 rfl, _, _, rfl⟩, fun h => absurd h (by decide), ⟨false, fun h => absurd h (by decide), zkX9_town⟩, by decide, by decide⟩
set_option maxRecDepth 100000 in
theorem zoX9_fault : zEok zeX9_fault := ⟨by decide, zmg 1359 rfl, zmt 9 rfl, ⟨by decide, by decide, by decide +kernel⟩, by decide, rfl, Or.inr (Or.inl ⟨rfl, rfl⟩), fun h => absurd h (by decide), fun _ => ⟨zmt 1357 rfl, zmt 1358 rfl, _, _, rfl⟩, fun h => absurd h (by decide), ⟨false, fun h => absurd h (by decide), zkX9_fault⟩, by decide, by decide⟩
set_option maxRecDepth 100000 in
theorem zoX9_where : zEok zeX9_where := ⟨by decide, zmg 1363 rfl, zmt 9 rfl, ⟨by decide, by decide, by decide +kernel⟩, by decide, rfl, Or.inr (Or.inl ⟨rfl, rfl⟩), fun h => absurd h (by decide), fun _ => ⟨zmt 1361 rfl, zmt 1362 rfl, _, _, rfl⟩, fun h => absurd h (by decide), ⟨false, fun h => absurd h (by decide), zkX9_where⟩, by decide, by decide⟩
set_option maxRecDepth 100000 in
theorem zoX9_laysLaw : zEok zeX9_laysLaw := ⟨by decide, zmg 1402 rfl, zmt 9 rfl, ⟨by decide, by decide, by decide +kernel⟩, by decide, rfl, Or.inl ⟨rfl, rfl⟩, fun h => absurd h (by decide), fun _ => ⟨zmt 1401 rfl, zmp 65 rfl, _, _, rfl⟩, fun h => absurd h (by decide), ⟨false, fun h => absurd h (by decide), zkX9_laysLaw⟩, by decide, by decide⟩
set_option maxRecDepth 100000 in
theorem zoX9_looksFar : zEok zeX9_looksFar := ⟨by decide, zmg 1461 rfl, zmt 9 rfl, ⟨by decide, by decide, by decide +kernel⟩, by decide, rfl, Or.inr (Or.inr (Or.inl ⟨rfl, rfl⟩)), fun h => absurd h (by decide), fun _ => ⟨zmt 1460 rfl, zmp 76 rfl, _, _, rfl⟩, fun h => absurd h (by decide), ⟨false, fun h => absurd h (by decide), zkX9_looksFar⟩, by decide, by decide⟩
set_option maxRecDepth 100000 in
theorem zoX9_leaving : zEok zeX9_leaving := ⟨by decide, zmg 1422 rfl, zmt 9 rfl, ⟨by decide, by decide, by decide +kernel⟩, by decide, rfl, Or.inr (Or.inl ⟨rfl, rfl⟩), fun h => absurd h (by decide), fun _ => ⟨zmt 1421 rfl, zmp 70 rfl, _, _, rfl⟩, fun h => absurd h (by decide), ⟨false, fun h => absurd h (by decide), zkX9_leaving⟩, by decide, by decide⟩
set_option maxRecDepth 100000 in
theorem zoX9_nearOf : zEok zeX9_nearOf := ⟨by decide, zmg 1418 rfl, zmt 9 rfl, ⟨by decide, by decide, by decide +kernel⟩, by decide, rfl, Or.inr (Or.inl ⟨rfl, rfl⟩), fun h => absurd h (by decide), fun _ => ⟨zmt 1417 rfl, zmp 69 rfl, _, _, rfl⟩, fun h => absurd h (by decide), ⟨false, fun h => absurd h (by decide), zkX9_nearOf⟩, by decide, by decide⟩
set_option maxRecDepth 100000 in
theorem zoX9_mostNear : zEok zeX9_mostNear := ⟨by decide, zmg 1426 rfl, zmt 9 rfl, ⟨by decide, by decide, by decide +kernel⟩, by decide, rfl, Or.inr (Or.inl ⟨rfl, rfl⟩), fun h => absurd h (by decide), fun _ => ⟨zmt 1425 rfl, zmp 71 rfl, _, _, rfl⟩, fun h => absurd h (by decide), ⟨false, fun h => absurd h (by decide), zkX9_mostNear⟩, by decide, by decide⟩
set_option maxRecDepth 100000 in
theorem zoX9_valueOf : zEok zeX9_valueOf := ⟨by decide, zmg 1414 rfl, zmt 9 rfl, ⟨by decide, by decide, by decide +kernel⟩, by decide, rfl, Or.inr (Or.inl ⟨rfl, rfl⟩), fun h => absurd h (by decide), fun _ => ⟨zmt 1413 rfl, zmp 68 rfl, _, _, rfl⟩, fun h => absurd h (by decide), ⟨false, fun h => absurd h (by decide), zkX9_valueOf⟩, by decide, by decide⟩
set_option maxRecDepth 100000 in
theorem zoX9_choiceOf : zEok zeX9_choiceOf := ⟨by decide, zmg 1410 rfl, zmt 9 rfl, ⟨by decide, by decide, by decide +kernel⟩, by decide, rfl, Or.inr (Or.inl ⟨rfl, rfl⟩), fun h => absurd h (by decide), fun _ => ⟨zmt 1409 rfl, zmp 67 rfl, _, _, rfl⟩, fun h => absurd h (by decide), ⟨false, fun h => absurd h (by decide), zkX9_choiceOf⟩, by decide, by decide⟩
set_option maxRecDepth 100000 in
theorem zoX9_cell : zEok zeX9_cell := ⟨by decide, zmg 1382 rfl, zmt 9 rfl, ⟨by decide, by decide, by decide +kernel⟩, by decide, rfl, Or.inr (Or.inl ⟨rfl, rfl⟩), fun _ => zmt 1381 rfl, fun h => absurd h (by decide), fun h => absurd h (by decide), ⟨false, fun h => absurd h (by decide), zkX9_cell⟩, by decide, by decide⟩
set_option maxRecDepth 100000 in
theorem zoX9_chooses : zEok zeX9_chooses := ⟨by decide, zmg 1465 rfl, zmt 9 rfl, ⟨by decide, by decide, by decide +kernel⟩, by decide, rfl, Or.inl ⟨rfl, rfl⟩, fun h => absurd h (by decide), fun _ => ⟨zmt 1464 rfl, zmp 77 rfl, _, _, rfl⟩, fun h => absurd h (by decide), ⟨false, fun h => absurd h (by decide), zkX9_chooses⟩, by decide, by decide⟩
set_option maxRecDepth 100000 in
theorem zoX9_goes : zEok zeX9_goes := ⟨by decide, zmg 1457 rfl, zmt 9 rfl, ⟨by decide, by decide, by decide +kernel⟩, by decide, rfl, Or.inl ⟨rfl, rfl⟩, fun h => absurd h (by decide), fun _ => ⟨zmt 1456 rfl, zmp 75 rfl, _, _, rfl⟩, fun h => absurd h (by decide), ⟨false, fun h => absurd h (by decide), zkX9_goes⟩, by decide, by decide⟩
set_option maxRecDepth 100000 in
theorem zoX9_freshAsTold : zEok zeX9_freshAsTold := ⟨by decide, zmg 1452 rfl, zmt 9 rfl, ⟨by decide, by decide, by decide +kernel⟩, by decide, rfl, Or.inl ⟨rfl, rfl⟩, fun h => absurd h (by decide), fun _ => ⟨zmt 1451 rfl, zmp 74 rfl, _, _, rfl⟩, fun h => absurd h (by decide), ⟨false, fun h => absurd h (by decide), zkX9_freshAsTold⟩, by decide, by decide⟩
set_option maxRecDepth 100000 in
theorem zoX9_isBaker : zEok zeX9_isBaker := ⟨by decide, zmg 1371 rfl, zmt 9 rfl, ⟨by decide, by decide, by decide +kernel⟩, by decide, rfl, Or.inr (Or.inr (Or.inl ⟨rfl, rfl⟩)), fun h => absurd h (by decide), fun _ => ⟨zmt 1370 rfl, zmp 60 rfl, _, _, rfl⟩, fun h => absurd h (by decide), ⟨false, fun h => absurd h (by decide), zkX9_isBaker⟩, by decide, by decide⟩
set_option maxRecDepth 100000 in
theorem zoX9_isSort : zEok zeX9_isSort := ⟨by decide, zmg 1375 rfl, zmt 9 rfl, ⟨by decide, by decide, by decide +kernel⟩, by decide, rfl, Or.inr (Or.inr (Or.inl ⟨rfl, rfl⟩)), fun h => absurd h (by decide), fun _ => ⟨zmt 1374 rfl, zmp 61 rfl, _, _, rfl⟩, fun h => absurd h (by decide), ⟨false, fun h => absurd h (by decide), zkX9_isSort⟩, by decide, by decide⟩
set_option maxRecDepth 100000 in
theorem zoX9_isStep : zEok zeX9_isStep := ⟨by decide, zmg 1394 rfl, zmt 9 rfl, ⟨by decide, by decide, by decide +kernel⟩, by decide, rfl, Or.inr (Or.inr (Or.inl ⟨rfl, rfl⟩)), fun h => absurd h (by decide), fun _ => ⟨zmt 1393 rfl, zmp 64 rfl, _, _, rfl⟩, fun h => absurd h (by decide), ⟨false, fun h => absurd h (by decide), zkX9_isStep⟩, by decide, by decide⟩
set_option maxRecDepth 100000 in
theorem zoX9_pricesAsked : zEok zeX9_pricesAsked := ⟨by decide, zmg 1406 rfl, zmt 9 rfl, ⟨by decide, by decide, by decide +kernel⟩, by decide, rfl, Or.inl ⟨rfl, rfl⟩, fun h => absurd h (by decide), fun _ => ⟨zmt 1405 rfl, zmp 66 rfl, _, _, rfl⟩, fun h => absurd h (by decide), ⟨false, fun h => absurd h (by decide), zkX9_pricesAsked⟩, by decide, by decide⟩
set_option maxRecDepth 100000 in
theorem zoX9_hold : zEok zeX9_hold := ⟨by decide, zmg 1367 rfl, zmt 9 rfl, ⟨by decide, by decide, by decide +kernel⟩, by decide, rfl, Or.inr (Or.inr (Or.inl ⟨rfl, rfl⟩)), fun h => absurd h (by decide), fun _ => ⟨zmt 1365 rfl, zmt 1366 rfl, _, _, rfl⟩, fun h => absurd h (by decide), ⟨false, fun h => absurd h (by decide), zkX9_hold⟩, by decide, by decide⟩
set_option maxRecDepth 100000 in
theorem zoX9_ask : zEok zeX9_ask := ⟨by decide, zmg 1390 rfl, zmt 9 rfl, ⟨by decide, by decide, by decide +kernel⟩, by decide, rfl, Or.inr (Or.inr (Or.inl ⟨rfl, rfl⟩)), fun h => absurd h (by decide), fun _ => ⟨zmt 1388 rfl, zmt 1389 rfl, _, _, rfl⟩, fun h => absurd h (by decide), ⟨false, fun h => absurd h (by decide), zkX9_ask⟩, by decide, by decide⟩
set_option maxRecDepth 100000 in
theorem zoX9_choose : zEok zeX9_choose := ⟨by decide, zmg 1398 rfl, zmt 9 rfl, ⟨by decide, by decide, by decide +kernel⟩, by decide, rfl, Or.inr (Or.inl ⟨rfl, rfl⟩), fun h => absurd h (by decide), fun _ => ⟨zmt 1396 rfl, zmt 1397 rfl, _, _, rfl⟩, fun h => absurd h (by decide), ⟨false, fun h => absurd h (by decide), zkX9_choose⟩, by decide, by decide⟩
set_option maxRecDepth 100000 in
theorem zoX9_has : zEok zeX9_has := ⟨by decide, zmg 1430 rfl, zmt 9 rfl, ⟨by decide, by decide, by decide +kernel⟩, by decide, rfl, Or.inr (Or.inl ⟨rfl, rfl⟩), fun h => absurd h (by decide), fun _ => ⟨zmt 1428 rfl, zmt 1429 rfl, _, _, rfl⟩, fun h => absurd h (by decide), ⟨false, fun h => absurd h (by decide), zkX9_has⟩, by decide, by decide⟩
set_option maxRecDepth 100000 in
theorem zoX9_seed : zEok zeX9_seed := ⟨by decide, zmg 1435 rfl, zmt 9 rfl, ⟨by decide, by decide, by decide +kernel⟩, by decide, rfl, Or.inr (Or.inr (Or.inl ⟨rfl, rfl⟩)), fun h => absurd h (by decide), fun _ => ⟨zmt 1433 rfl, zmt 1434 rfl, _, _, rfl⟩, fun h => absurd h (by decide), ⟨false, fun h => absurd h (by decide), zkX9_seed⟩, by decide, by decide⟩
set_option maxRecDepth 100000 in
theorem zoX9_draws : zEok zeX9_draws := ⟨by decide, zmg 1448 rfl, zmt 9 rfl, ⟨by decide, by decide, by decide +kernel⟩, by decide, rfl, Or.inl ⟨rfl, rfl⟩, fun h => absurd h (by decide), fun _ => ⟨zmt 1447 rfl, zmp 73 rfl, _, _, rfl⟩, fun h => absurd h (by decide), ⟨false, fun h => absurd h (by decide), zkX9_draws⟩, by decide, by decide⟩
set_option maxRecDepth 100000 in
theorem zoX9_passes : zEok zeX9_passes := ⟨by decide, zmg 1444 rfl, zmt 9 rfl, ⟨by decide, by decide, by decide +kernel⟩, by decide, rfl, Or.inr (Or.inl ⟨rfl, rfl⟩), fun h => absurd h (by decide), fun _ => ⟨zmt 1443 rfl, zmp 72 rfl, _, _, rfl⟩, fun h => absurd h (by decide), ⟨false, fun h => absurd h (by decide), zkX9_passes⟩, by decide, by decide⟩
set_option maxRecDepth 100000 in
theorem zoX9_go : zEok zeX9_go := ⟨by decide, zmg 1440 rfl, zmt 9 rfl, ⟨by decide, by decide, by decide +kernel⟩, by decide, rfl, Or.inr (Or.inl ⟨rfl, rfl⟩), fun h => absurd h (by decide), fun _ => ⟨zmt 1438 rfl, zmt 1439 rfl, _, _, rfl⟩, fun h => absurd h (by decide), ⟨false, fun h => absurd h (by decide), zkX9_go⟩, by decide, by decide⟩
set_option maxRecDepth 100000 in
theorem zoX9_again : zEok zeX9_again := ⟨by decide, zmg 1469 rfl, zmt 9 rfl, ⟨by decide, by decide, by decide +kernel⟩, by decide, rfl, Or.inr (Or.inr (Or.inl ⟨rfl, rfl⟩)), fun h => absurd h (by decide), fun _ => ⟨zmt 1467 rfl, zmt 1468 rfl, _, _, rfl⟩, fun h => absurd h (by decide), ⟨false, fun h => absurd h (by decide), zkX9_again⟩, by decide, by decide⟩
set_option maxRecDepth 100000 in
theorem zoX9_held : zEok zeX9_held := ⟨by decide, zmg 1473 rfl, zmt 9 rfl, ⟨by decide, by decide, by decide +kernel⟩, by decide, rfl, Or.inr (Or.inl ⟨rfl, rfl⟩), fun h => absurd h (by decide), fun _ => ⟨zmt 1471 rfl, zmt 1472 rfl, _, _, rfl⟩, fun h => absurd h (by decide), ⟨false, fun h => absurd h (by decide), zkX9_held⟩, by decide, by decide⟩
set_option maxRecDepth 100000 in
theorem zoX9_earned : zEok zeX9_earned := ⟨by decide, zmg 1477 rfl, zmt 9 rfl, ⟨by decide, by decide, by decide +kernel⟩, by decide, rfl, Or.inr (Or.inr (Or.inr ⟨rfl, rfl⟩)), fun h => absurd h (by decide), fun _ => ⟨zmt 1475 rfl, zmt 1476 rfl, _, _, rfl⟩, fun h => absurd h (by decide), ⟨false, fun h => absurd h (by decide), zkX9_earned⟩, by decide, by decide⟩
set_option maxRecDepth 100000 in
theorem zoX9_actsOf : zEok zeX9_actsOf := ⟨by decide, zmg 1502 rfl, zmt 9 rfl, ⟨by decide, by decide, by decide +kernel⟩, by decide, rfl, Or.inr (Or.inl ⟨rfl, rfl⟩), fun h => absurd h (by decide), fun _ => ⟨zmt 1501 rfl, zmp 82 rfl, _, _, rfl⟩, fun h => absurd h (by decide), ⟨false, fun h => absurd h (by decide), zkX9_actsOf⟩, by decide, by decide⟩
set_option maxRecDepth 100000 in
theorem zoX9_allActs : zEok zeX9_allActs := ⟨by decide, zmg 1498 rfl, zmt 9 rfl, ⟨by decide, by decide, by decide +kernel⟩, by decide, rfl, Or.inr (Or.inl ⟨rfl, rfl⟩), fun h => absurd h (by decide), fun _ => ⟨zmt 1497 rfl, zmp 81 rfl, _, _, rfl⟩, fun h => absurd h (by decide), ⟨false, fun h => absurd h (by decide), zkX9_allActs⟩, by decide, by decide⟩
set_option maxRecDepth 100000 in
theorem zoX9_isTooMuch : zEok zeX9_isTooMuch := ⟨by decide, zmg 1494 rfl, zmt 9 rfl, ⟨by decide, by decide, by decide +kernel⟩, by decide, rfl, Or.inr (Or.inr (Or.inl ⟨rfl, rfl⟩)), fun h => absurd h (by decide), fun _ => ⟨zmt 1493 rfl, zmp 80 rfl, _, _, rfl⟩, fun h => absurd h (by decide), ⟨false, fun h => absurd h (by decide), zkX9_isTooMuch⟩, by decide, by decide⟩
set_option maxRecDepth 100000 in
theorem zoX9_stride : zEok zeX9_stride := ⟨by decide, zmg 1531 rfl, zmt 9 rfl, ⟨by decide, by decide, by decide +kernel⟩, by decide, rfl, Or.inr (Or.inl ⟨rfl, rfl⟩), fun h => absurd h (by decide), fun _ => ⟨zmt 1530 rfl, zmp 89 rfl, _, _, rfl⟩, fun h => absurd h (by decide), ⟨false, fun h => absurd h (by decide), zkX9_stride⟩, by decide, by decide⟩
set_option maxRecDepth 100000 in
theorem zoX9_actOf : zEok zeX9_actOf := ⟨by decide, zmg 1527 rfl, zmt 9 rfl, ⟨by decide, by decide, by decide +kernel⟩, by decide, rfl, Or.inr (Or.inl ⟨rfl, rfl⟩), fun h => absurd h (by decide), fun _ => ⟨zmt 1526 rfl, zmp 88 rfl, _, _, rfl⟩, fun h => absurd h (by decide), ⟨false, fun h => absurd h (by decide), zkX9_actOf⟩, by decide, by decide⟩
set_option maxRecDepth 100000 in
theorem zoX9_oldOf : zEok zeX9_oldOf := ⟨by decide, zmg 1535 rfl, zmt 9 rfl, ⟨by decide, by decide, by decide +kernel⟩, by decide, rfl, Or.inr (Or.inl ⟨rfl, rfl⟩), fun h => absurd h (by decide), fun _ => ⟨zmt 1534 rfl, zmp 90 rfl, _, _, rfl⟩, fun h => absurd h (by decide), ⟨false, fun h => absurd h (by decide), zkX9_oldOf⟩, by decide, by decide⟩
set_option maxRecDepth 100000 in
theorem zoX9_newOf : zEok zeX9_newOf := ⟨by decide, zmg 1539 rfl, zmt 9 rfl, ⟨by decide, by decide, by decide +kernel⟩, by decide, rfl, Or.inr (Or.inl ⟨rfl, rfl⟩), fun h => absurd h (by decide), fun _ => ⟨zmt 1538 rfl, zmp 91 rfl, _, _, rfl⟩, fun h => absurd h (by decide), ⟨false, fun h => absurd h (by decide), zkX9_newOf⟩, by decide, by decide⟩
set_option maxRecDepth 100000 in
theorem zoX9_pricesBy : zEok zeX9_pricesBy := ⟨by decide, zmg 1523 rfl, zmt 9 rfl, ⟨by decide, by decide, by decide +kernel⟩, by decide, rfl, Or.inl ⟨rfl, rfl⟩, fun h => absurd h (by decide), fun _ => ⟨zmt 1522 rfl, zmp 87 rfl, _, _, rfl⟩, fun h => absurd h (by decide), ⟨false, fun h => absurd h (by decide), zkX9_pricesBy⟩, by decide, by decide⟩
set_option maxRecDepth 100000 in
theorem zoX9_worthAt : zEok zeX9_worthAt := ⟨by decide, zmg 1546 rfl, zmt 9 rfl, ⟨by decide, by decide, by decide +kernel⟩, by decide, rfl, Or.inr (Or.inl ⟨rfl, rfl⟩), fun _ => zmt 1545 rfl, fun h => absurd h (by decide), fun h => absurd h (by decide), ⟨false, fun h => absurd h (by decide), zkX9_worthAt⟩, by decide, by decide⟩
set_option maxRecDepth 100000 in
theorem zoX9_gainOf : zEok zeX9_gainOf := ⟨by decide, zmg 1557 rfl, zmt 9 rfl, ⟨by decide, by decide, by decide +kernel⟩, by decide, rfl, Or.inr (Or.inr (Or.inr ⟨rfl, rfl⟩)), fun h => absurd h (by decide), fun _ => ⟨zmt 1556 rfl, zmp 94 rfl, _, _, rfl⟩, fun h => absurd h (by decide), ⟨false, fun h => absurd h (by decide), zkX9_gainOf⟩, by decide, by decide⟩
set_option maxRecDepth 100000 in
theorem zoX9_picks : zEok zeX9_picks := ⟨by decide, zmg 1552 rfl, zmt 9 rfl, ⟨by decide, by decide, by decide +kernel⟩, by decide, rfl, Or.inr (Or.inl ⟨rfl, rfl⟩), fun h => absurd h (by decide), fun _ => ⟨zmt 1551 rfl, zmp 93 rfl, _, _, rfl⟩, fun h => absurd h (by decide), ⟨false, fun h => absurd h (by decide), zkX9_picks⟩, by decide, by decide⟩
set_option maxRecDepth 100000 in
theorem zoX9_puts : zEok zeX9_puts := ⟨by decide, zmg 1543 rfl, zmt 9 rfl, ⟨by decide, by decide, by decide +kernel⟩, by decide, rfl, Or.inl ⟨rfl, rfl⟩, fun h => absurd h (by decide), fun _ => ⟨zmt 1542 rfl, zmp 92 rfl, _, _, rfl⟩, fun h => absurd h (by decide), ⟨false, fun h => absurd h (by decide), zkX9_puts⟩, by decide, by decide⟩
set_option maxRecDepth 100000 in
theorem zoX9_year : zEok zeX9_year := ⟨by decide, zmg 1519 rfl, zmt 9 rfl, ⟨by decide, by decide, by decide +kernel⟩, by decide, rfl, Or.inl ⟨rfl, rfl⟩, fun h => absurd h (by decide), fun _ => ⟨zmt 1518 rfl, zmp 86 rfl, _, _, rfl⟩, fun h => absurd h (by decide), ⟨false, fun h => absurd h (by decide), zkX9_year⟩, by decide, by decide⟩
set_option maxRecDepth 100000 in
theorem zoX9_restsOne : zEok zeX9_restsOne := ⟨by decide, zmg 1515 rfl, zmt 9 rfl, ⟨by decide, by decide, by decide +kernel⟩, by decide, rfl, Or.inr (Or.inl ⟨rfl, rfl⟩), fun h => absurd h (by decide), fun _ => ⟨zmt 1514 rfl, zmp 85 rfl, _, _, rfl⟩, fun h => absurd h (by decide), ⟨false, fun h => absurd h (by decide), zkX9_restsOne⟩, by decide, by decide⟩
set_option maxRecDepth 100000 in
theorem zoX9_restsTwo : zEok zeX9_restsTwo := ⟨by decide, zmg 1561 rfl, zmt 9 rfl, ⟨by decide, by decide, by decide +kernel⟩, by decide, rfl, Or.inr (Or.inl ⟨rfl, rfl⟩), fun h => absurd h (by decide), fun _ => ⟨zmt 1560 rfl, zmp 95 rfl, _, _, rfl⟩, fun h => absurd h (by decide), ⟨false, fun h => absurd h (by decide), zkX9_restsTwo⟩, by decide, by decide⟩
set_option maxRecDepth 100000 in
theorem zoX9_restsThree : zEok zeX9_restsThree := ⟨by decide, zmg 1565 rfl, zmt 9 rfl, ⟨by decide, by decide, by decide +kernel⟩, by decide, rfl, Or.inr (Or.inl ⟨rfl, rfl⟩), fun h => absurd h (by decide), fun _ => ⟨zmt 1564 rfl, zmp 96 rfl, _, _, rfl⟩, fun h => absurd h (by decide), ⟨false, fun h => absurd h (by decide), zkX9_restsThree⟩, by decide, by decide⟩
set_option maxRecDepth 100000 in
theorem zoX9_rests : zEok zeX9_rests := ⟨by decide, zmg 1511 rfl, zmt 9 rfl, ⟨by decide, by decide, by decide +kernel⟩, by decide, rfl, Or.inr (Or.inl ⟨rfl, rfl⟩), fun h => absurd h (by decide), fun _ => ⟨zmt 1510 rfl, zmp 84 rfl, _, _, rfl⟩, fun h => absurd h (by decide), ⟨false, fun h => absurd h (by decide), zkX9_rests⟩, by decide, by decide⟩
set_option maxRecDepth 100000 in
theorem zoX9_beginsFromHeld : zEok zeX9_beginsFromHeld := ⟨by decide, zmg 1507 rfl, zmt 9 rfl, ⟨by decide, by decide, by decide +kernel⟩, by decide, rfl, Or.inl ⟨rfl, rfl⟩, fun h => absurd h (by decide), fun _ => ⟨zmt 1506 rfl, zmp 83 rfl, _, _, rfl⟩, fun h => absurd h (by decide), ⟨false, fun h => absurd h (by decide), zkX9_beginsFromHeld⟩, by decide, by decide⟩
set_option maxRecDepth 100000 in
theorem zoX9_rest : zEok zeX9_rest := ⟨by decide, zmg 1490 rfl, zmt 9 rfl, ⟨by decide, by decide, by decide +kernel⟩, by decide, rfl, Or.inr (Or.inl ⟨rfl, rfl⟩), fun h => absurd h (by decide), fun _ => ⟨zmt 1488 rfl, zmt 1489 rfl, _, _, rfl⟩, fun h => absurd h (by decide), ⟨false, fun h => absurd h (by decide), zkX9_rest⟩, by decide, by decide⟩
set_option maxRecDepth 100000 in
theorem zoX9_act : zEok zeX9_act := ⟨by decide, zmg 1569 rfl, zmt 9 rfl, ⟨by decide, by decide, by decide +kernel⟩, by decide, rfl, Or.inr (Or.inl ⟨rfl, rfl⟩), fun h => absurd h (by decide), fun _ => ⟨zmt 1567 rfl, zmt 1568 rfl, _, _, rfl⟩, fun h => absurd h (by decide), ⟨false, fun h => absurd h (by decide), zkX9_act⟩, by decide, by decide⟩
set_option maxRecDepth 100000 in
theorem zoX9_worth : zEok zeX9_worth := ⟨by decide, zmg 1573 rfl, zmt 9 rfl, ⟨by decide, by decide, by decide +kernel⟩, by decide, rfl, Or.inr (Or.inr (Or.inr ⟨rfl, rfl⟩)), fun h => absurd h (by decide), fun _ => ⟨zmt 1571 rfl, zmt 1572 rfl, _, _, rfl⟩, fun h => absurd h (by decide), ⟨false, fun h => absurd h (by decide), zkX9_worth⟩, by decide, by decide⟩
set_option maxRecDepth 100000 in
theorem zoX9_earnsBy : zEok zeX9_earnsBy := ⟨by decide, zmg 1585 rfl, zmt 9 rfl, ⟨by decide, by decide, by decide +kernel⟩, by decide, rfl, Or.inr (Or.inl ⟨rfl, rfl⟩), fun h => absurd h (by decide), fun _ => ⟨zmt 1584 rfl, zmp 98 rfl, _, _, rfl⟩, fun h => absurd h (by decide), ⟨false, fun h => absurd h (by decide), zkX9_earnsBy⟩, by decide, by decide⟩
set_option maxRecDepth 100000 in
theorem zoX9_bestAct : zEok zeX9_bestAct := ⟨by decide, zmg 1581 rfl, zmt 9 rfl, ⟨by decide, by decide, by decide +kernel⟩, by decide, rfl, Or.inr (Or.inl ⟨rfl, rfl⟩), fun h => absurd h (by decide), fun _ => ⟨zmt 1580 rfl, zmp 97 rfl, _, _, rfl⟩, fun h => absurd h (by decide), ⟨false, fun h => absurd h (by decide), zkX9_bestAct⟩, by decide, by decide⟩
set_option maxRecDepth 100000 in
theorem zoX9_gain : zEok zeX9_gain := ⟨by decide, zmg 1577 rfl, zmt 9 rfl, ⟨by decide, by decide, by decide +kernel⟩, by decide, rfl, Or.inr (Or.inr (Or.inr ⟨rfl, rfl⟩)), fun h => absurd h (by decide), fun _ => ⟨zmt 1575 rfl, zmt 1576 rfl, _, _, rfl⟩, fun h => absurd h (by decide), ⟨false, fun h => absurd h (by decide), zkX9_gain⟩, by decide, by decide⟩
set_option maxRecDepth 100000 in
theorem zoX9_best : zEok zeX9_best := ⟨by decide, zmg 1589 rfl, zmt 9 rfl, ⟨by decide, by decide, by decide +kernel⟩, by decide, rfl, Or.inr (Or.inl ⟨rfl, rfl⟩), fun h => absurd h (by decide), fun _ => ⟨zmt 1587 rfl, zmt 1588 rfl, _, _, rfl⟩, fun h => absurd h (by decide), ⟨false, fun h => absurd h (by decide), zkX9_best⟩, by decide, by decide⟩
set_option maxRecDepth 100000 in
theorem zoX9_plays : zEok zeX9_plays := ⟨by decide, zmg 1601 rfl, zmt 9 rfl, ⟨by decide, by decide, by decide +kernel⟩, by decide, rfl, Or.inl ⟨rfl, rfl⟩, fun h => absurd h (by decide), fun _ => ⟨zmt 1600 rfl, zmp 100 rfl, _, _, rfl⟩, fun h => absurd h (by decide), ⟨false, fun h => absurd h (by decide), zkX9_plays⟩, by decide, by decide⟩
set_option maxRecDepth 100000 in
theorem zoX9_refusesLaw : zEok zeX9_refusesLaw := ⟨by decide, zmg 1597 rfl, zmt 9 rfl, ⟨by decide, by decide, by decide +kernel⟩, by decide, rfl, Or.inr (Or.inl ⟨rfl, rfl⟩), fun h => absurd h (by decide), fun _ => ⟨zmt 1596 rfl, zmp 99 rfl, _, _, rfl⟩, fun h => absurd h (by decide), ⟨false, fun h => absurd h (by decide), zkX9_refusesLaw⟩, by decide, by decide⟩
set_option maxRecDepth 100000 in
theorem zoX9_paid : zEok zeX9_paid := ⟨by decide, zmg 1593 rfl, zmt 9 rfl, ⟨by decide, by decide, by decide +kernel⟩, by decide, rfl, Or.inr (Or.inr (Or.inr ⟨rfl, rfl⟩)), fun h => absurd h (by decide), fun _ => ⟨zmt 1591 rfl, zmt 1592 rfl, _, _, rfl⟩, fun h => absurd h (by decide), ⟨false, fun h => absurd h (by decide), zkX9_paid⟩, by decide, by decide⟩
set_option maxRecDepth 100000 in
theorem zoX9_leavings : zEok zeX9_leavings := ⟨by decide, zmg 1605 rfl, zmt 9 rfl, ⟨by decide, by decide, by decide +kernel⟩, by decide, rfl, Or.inr (Or.inr (Or.inr ⟨rfl, rfl⟩)), fun h => absurd h (by decide), fun _ => ⟨zmt 1603 rfl, zmt 1604 rfl, _, _, rfl⟩, fun h => absurd h (by decide), ⟨false, fun h => absurd h (by decide), zkX9_leavings⟩, by decide, by decide⟩
set_option maxRecDepth 100000 in
theorem zoX9_kindest : zEok zeX9_kindest := ⟨by decide, zmg 1609 rfl, zmt 9 rfl, ⟨by decide, by decide, by decide +kernel⟩, by decide, rfl, Or.inr (Or.inl ⟨rfl, rfl⟩), fun h => absurd h (by decide), fun _ => ⟨zmt 1607 rfl, zmt 1608 rfl, _, _, rfl⟩, fun h => absurd h (by decide), ⟨false, fun h => absurd h (by decide), zkX9_kindest⟩, by decide, by decide⟩
set_option maxRecDepth 100000 in
theorem zoX9_worthOf : zEok zeX9_worthOf := ⟨by decide, zmg 1617 rfl, zmt 9 rfl, ⟨by decide, by decide, by decide +kernel⟩, by decide, rfl, Or.inr (Or.inr (Or.inr ⟨rfl, rfl⟩)), fun h => absurd h (by decide), fun _ => ⟨zmt 1616 rfl, zmp 101 rfl, _, _, rfl⟩, fun h => absurd h (by decide), ⟨false, fun h => absurd h (by decide), zkX9_worthOf⟩, by decide, by decide⟩
set_option maxRecDepth 100000 in
theorem zoX9_promise : zEok zeX9_promise := ⟨by decide, zmg 1613 rfl, zmt 9 rfl, ⟨by decide, by decide, by decide +kernel⟩, by decide, rfl, Or.inr (Or.inr (Or.inr ⟨rfl, rfl⟩)), fun h => absurd h (by decide), fun _ => ⟨zmt 1611 rfl, zmt 1612 rfl, _, _, rfl⟩, fun h => absurd h (by decide), ⟨false, fun h => absurd h (by decide), zkX9_promise⟩, by decide, by decide⟩
set_option maxRecDepth 100000 in
theorem zoX9_shaped : zEok zeX9_shaped := ⟨by decide, zmg 1625 rfl, zmt 9 rfl, ⟨by decide, by decide, by decide +kernel⟩, by decide, rfl, Or.inr (Or.inr (Or.inr ⟨rfl, rfl⟩)), fun h => absurd h (by decide), fun _ => ⟨zmt 1624 rfl, zmp 102 rfl, _, _, rfl⟩, fun h => absurd h (by decide), ⟨false, fun h => absurd h (by decide), zkX9_shaped⟩, by decide, by decide⟩
set_option maxRecDepth 100000 in
theorem zoX9_shape : zEok zeX9_shape := ⟨by decide, zmg 1621 rfl, zmt 9 rfl, ⟨by decide, by decide, by decide +kernel⟩, by decide, rfl, Or.inr (Or.inr (Or.inr ⟨rfl, rfl⟩)), fun h => absurd h (by decide), fun _ => ⟨zmt 1619 rfl, zmt 1620 rfl, _, _, rfl⟩, fun h => absurd h (by decide), ⟨false, fun h => absurd h (by decide), zkX9_shape⟩, by decide, by decide⟩
set_option maxRecDepth 100000 in
theorem zoX9_fit : zEok zeX9_fit := ⟨by decide, zmg 1629 rfl, zmt 9 rfl, ⟨by decide, by decide, by decide +kernel⟩, by decide, rfl, Or.inr (Or.inl ⟨rfl, rfl⟩), fun h => absurd h (by decide), fun _ => ⟨zmt 1627 rfl, zmt 1628 rfl, _, _, rfl⟩, fun h => absurd h (by decide), ⟨false, fun h => absurd h (by decide), zkX9_fit⟩, by decide, by decide⟩
set_option maxRecDepth 100000 in
theorem zoX9_late : zEok zeX9_late := ⟨by decide, zmg 1633 rfl, zmt 9 rfl, ⟨by decide, by decide, by decide +kernel⟩, by decide, rfl, Or.inr (Or.inl ⟨rfl, rfl⟩), fun h => absurd h (by decide), fun _ => ⟨zmt 1631 rfl, zmt 1632 rfl, _, _, rfl⟩, fun h => absurd h (by decide), ⟨false, fun h => absurd h (by decide), zkX9_late⟩, by decide, by decide⟩
set_option maxRecDepth 100000 in
theorem zoX9_lures : zEok zeX9_lures := ⟨by decide, zmg 1637 rfl, zmt 9 rfl, ⟨by decide, by decide, by decide +kernel⟩, by decide, rfl, Or.inr (Or.inl ⟨rfl, rfl⟩), fun h => absurd h (by decide), fun _ => ⟨zmt 1635 rfl, zmt 1636 rfl, _, _, rfl⟩, fun h => absurd h (by decide), ⟨false, fun h => absurd h (by decide), zkX9_lures⟩, by decide, by decide⟩
set_option maxRecDepth 100000 in
theorem zoX9_somebodyLures : zEok zeX9_somebodyLures := ⟨by decide, zmg 1645 rfl, zmt 9 rfl, ⟨by decide, by decide, by decide +kernel⟩, by decide, rfl, Or.inr (Or.inr (Or.inl ⟨rfl, rfl⟩)), fun h => absurd h (by decide), fun _ => ⟨zmt 1644 rfl, zmp 103 rfl, _, _, rfl⟩, fun h => absurd h (by decide), ⟨false, fun h => absurd h (by decide), zkX9_somebodyLures⟩, by decide, by decide⟩
set_option maxRecDepth 100000 in
theorem zoX9_edge : zEok zeX9_edge := ⟨by decide, zmg 1641 rfl, zmt 9 rfl, ⟨by decide, by decide, by decide +kernel⟩, by decide, rfl, Or.inr (Or.inl ⟨rfl, rfl⟩), fun h => absurd h (by decide), fun _ => ⟨zmt 1639 rfl, zmt 1640 rfl, _, _, rfl⟩, fun h => absurd h (by decide), ⟨false, fun h => absurd h (by decide), zkX9_edge⟩, by decide, by decide⟩
set_option maxRecDepth 100000 in
theorem zoX9_change : zEok zeX9_change := ⟨by decide, zmg 1649 rfl, zmt 9 rfl, ⟨by decide, by decide, by decide +kernel⟩, by decide, rfl, Or.inr (Or.inl ⟨rfl, rfl⟩), fun h => absurd h (by decide), fun _ => ⟨zmt 1647 rfl, zmt 1648 rfl, _, _, rfl⟩, fun h => absurd h (by decide), ⟨false, fun h => absurd h (by decide), zkX9_change⟩, by decide, by decide⟩
set_option maxRecDepth 100000 in
theorem zoX9_led : zEok zeX9_led := ⟨by decide, zmg 1653 rfl, zmt 9 rfl, ⟨by decide, by decide, by decide +kernel⟩, by decide, rfl, Or.inr (Or.inl ⟨rfl, rfl⟩), fun h => absurd h (by decide), fun _ => ⟨zmt 1651 rfl, zmt 1652 rfl, _, _, rfl⟩, fun h => absurd h (by decide), ⟨false, fun h => absurd h (by decide), zkX9_led⟩, by decide, by decide⟩
set_option maxRecDepth 100000 in
theorem zoX9_size : zEok zeX9_size := ⟨by decide, zmg 1657 rfl, zmt 9 rfl, ⟨by decide, by decide, by decide +kernel⟩, by decide, rfl, Or.inr (Or.inl ⟨rfl, rfl⟩), fun h => absurd h (by decide), fun _ => ⟨zmt 1655 rfl, zmt 1656 rfl, _, _, rfl⟩, fun h => absurd h (by decide), ⟨false, fun h => absurd h (by decide), zkX9_size⟩, by decide, by decide⟩
set_option maxRecDepth 100000 in
theorem zoX9_baker : zEok zeX9_baker := ⟨by decide, zmg 1661 rfl, zmt 9 rfl, ⟨by decide, by decide, by decide +kernel⟩, by decide, rfl, Or.inr (Or.inl ⟨rfl, rfl⟩), fun h => absurd h (by decide), fun _ => ⟨zmt 1659 rfl, zmt 1660 rfl, _, _, rfl⟩, fun h => absurd h (by decide), ⟨false, fun h => absurd h (by decide), zkX9_baker⟩, by decide, by decide⟩
set_option maxRecDepth 100000 in
theorem zoX9_sort : zEok zeX9_sort := ⟨by decide, zmg 1665 rfl, zmt 9 rfl, ⟨by decide, by decide, by decide +kernel⟩, by decide, rfl, Or.inr (Or.inl ⟨rfl, rfl⟩), fun h => absurd h (by decide), fun _ => ⟨zmt 1663 rfl, zmt 1664 rfl, _, _, rfl⟩, fun h => absurd h (by decide), ⟨false, fun h => absurd h (by decide), zkX9_sort⟩, by decide, by decide⟩
set_option maxRecDepth 100000 in
theorem zoX9_trouble : zEok zeX9_trouble := ⟨by decide, zmg 1669 rfl, zmt 9 rfl, ⟨by decide, by decide, by decide +kernel⟩, by decide, rfl, Or.inr (Or.inl ⟨rfl, rfl⟩), fun h => absurd h (by decide), fun _ => ⟨zmt 1667 rfl, zmt 1668 rfl, _, _, rfl⟩, fun h => absurd h (by decide), ⟨false, fun h => absurd h (by decide), zkX9_trouble⟩, by decide, by decide⟩
set_option maxRecDepth 100000 in
theorem zoJ9_floorDiv_f86c9 : zEok zeJ9_floorDiv_f86c9 := ⟨by decide +kernel, zmg 791 rfl, zmt 17 rfl, ⟨by decide, by decide, by decide +kernel⟩, by decide, rfl, Or.inr (Or.inr (Or.inr ⟨rfl, rfl⟩)), fun _ => zmt 790 rfl, fun h => absurd h (by decide), fun h => absurd h (by decide), ⟨false, fun h => absurd h (by decide), zkJ9_floorDiv_f86c9⟩, by decide, by decide⟩
set_option maxRecDepth 100000 in
theorem zoJ9_max_7cf53 : zEok zeJ9_max_7cf53 := ⟨by decide +kernel, zmg 641 rfl, zmt 17 rfl, ⟨by decide, by decide, by decide +kernel⟩, by decide, rfl, Or.inr (Or.inl ⟨rfl, rfl⟩), fun _ => zmt 640 rfl, fun h => absurd h (by decide), fun h => absurd h (by decide), ⟨false, fun h => absurd h (by decide), zkJ9_max_7cf53⟩, by decide, by decide⟩
set_option maxRecDepth 100000 in
theorem zoJ9_max_f86c9 : zEok zeJ9_max_f86c9 := ⟨by decide +kernel, zmg 799 rfl, zmt 17 rfl, ⟨by decide, by decide, by decide +kernel⟩, by decide, rfl, Or.inr (Or.inr (Or.inr ⟨rfl, rfl⟩)), fun _ => zmt 798 rfl, fun h => absurd h (by decide), fun h => absurd h (by decide), ⟨false, fun h => absurd h (by decide), zkJ9_max_f86c9⟩, by decide, by decide⟩
set_option maxRecDepth 100000 in
theorem zoJ9_min_7cf53 : zEok zeJ9_min_7cf53 := ⟨by decide +kernel, zmg 860 rfl, zmt 17 rfl, ⟨by decide, by decide, by decide +kernel⟩, by decide, rfl, Or.inr (Or.inl ⟨rfl, rfl⟩), fun _ => zmt 859 rfl, fun h => absurd h (by decide), fun h => absurd h (by decide), ⟨false, fun h => absurd h (by decide), zkJ9_min_7cf53⟩, by decide, by decide⟩
set_option maxRecDepth 100000 in
theorem zoJ7_fill_d0a16 : zEok zeJ7_fill_d0a16 := ⟨by decide, zmg 690 rfl, zmt 15 rfl, ⟨by decide, by decide, by decide +kernel⟩, by decide, rfl, Or.inl ⟨rfl, rfl⟩, fun _ => zmt 689 rfl, fun h => absurd h (by decide), fun h => absurd h (by decide), ⟨false, fun h => absurd h (by decide), zkJ7_fill_d0a16⟩, by decide, by decide⟩
set_option maxRecDepth 100000 in
theorem zoJ7_fill_53178 : zEok zeJ7_fill_53178 := ⟨by decide, zmg 574 rfl, zmt 15 rfl, ⟨by decide, by decide, by decide +kernel⟩, by decide, rfl, Or.inl ⟨rfl, rfl⟩, fun _ => zmt 573 rfl, fun h => absurd h (by decide), fun h => absurd h (by decide), ⟨false, fun h => absurd h (by decide), zkJ7_fill_53178⟩, by decide, by decide⟩
