def zMR_0 : List zEn := [zeX0_init, zeX0_clear, zeX0_seat, zeX0_counter, zeX0_close, zeX1_init, zeX1_setPrices, zeX1_turnTo, zeX1_mostNear, zeX1_hasOf, zeX1_choice, zeX1_chooseAll, zeX2_init, zeX3_init, zeX3_read, zeX3_open, zeX3_fail, zeX3_nextToken, zeX3_kindOf, zeX3_isWord]
theorem zMR_0_ok : ∀ e ∈ zMR_0, e.2.2.2.2.2.2.2.2.2.2.1 = true → zEok e := by
  unfold zMR_0
  exact List.forall_mem_cons.mpr ⟨fun h => zoX0_init, List.forall_mem_cons.mpr ⟨fun h => zoX0_clear, List.forall_mem_cons.mpr ⟨fun h => zoX0_seat, List.forall_mem_cons.mpr ⟨fun h => zoX0_counter, List.forall_mem_cons.mpr ⟨fun h => zoX0_close, List.forall_mem_cons.mpr ⟨fun h => zoX1_init, List.forall_mem_cons.mpr ⟨fun h => zoX1_setPrices, List.forall_mem_cons.mpr ⟨fun h => zoX1_turnTo, List.forall_mem_cons.mpr ⟨fun h => zoX1_mostNear, List.forall_mem_cons.mpr ⟨fun h => zoX1_hasOf, List.forall_mem_cons.mpr ⟨fun h => zoX1_choice, List.forall_mem_cons.mpr ⟨fun h => zoX1_chooseAll, List.forall_mem_cons.mpr ⟨fun h => zoX2_init, List.forall_mem_cons.mpr ⟨fun h => zoX3_init, List.forall_mem_cons.mpr ⟨fun h => zoX3_read, List.forall_mem_cons.mpr ⟨fun h => zoX3_open, List.forall_mem_cons.mpr ⟨fun h => zoX3_fail, List.forall_mem_cons.mpr ⟨fun h => zoX3_nextToken, List.forall_mem_cons.mpr ⟨fun h => zoX3_kindOf, List.forall_mem_cons.mpr ⟨fun h => zoX3_isWord, fun _ h => absurd h List.not_mem_nil⟩⟩⟩⟩⟩⟩⟩⟩⟩⟩⟩⟩⟩⟩⟩⟩⟩⟩⟩⟩
def zMR_1 : List zEn := [zeX3_readBaker, zeX3_readSort, zeX3_readPrices, zeX3_readPrice, zeX3_readKeep, zeX3_readName, zeX3_isToldName, zeX3_sameBytes, zeX3_readWhole, zeX3_readEither, zeX3_pass, zeX4_init, zeX4_stage, zeX4_keepBelow, zeX4_shareNewOnes, zeX4_tabulate, zeX4_firstLike, zeX4_choosesAlike, zeX4_actOf, zeX4_askAll]
theorem zMR_1_ok : ∀ e ∈ zMR_1, e.2.2.2.2.2.2.2.2.2.2.1 = true → zEok e := by
  unfold zMR_1
  exact List.forall_mem_cons.mpr ⟨fun h => zoX3_readBaker, List.forall_mem_cons.mpr ⟨fun h => zoX3_readSort, List.forall_mem_cons.mpr ⟨fun h => zoX3_readPrices, List.forall_mem_cons.mpr ⟨fun h => zoX3_readPrice, List.forall_mem_cons.mpr ⟨fun h => zoX3_readKeep, List.forall_mem_cons.mpr ⟨fun h => zoX3_readName, List.forall_mem_cons.mpr ⟨fun h => zoX3_isToldName, List.forall_mem_cons.mpr ⟨fun h => zoX3_sameBytes, List.forall_mem_cons.mpr ⟨fun h => zoX3_readWhole, List.forall_mem_cons.mpr ⟨fun h => zoX3_readEither, List.forall_mem_cons.mpr ⟨fun h => zoX3_pass, List.forall_mem_cons.mpr ⟨fun h => zoX4_init, List.forall_mem_cons.mpr ⟨fun h => zoX4_stage, List.forall_mem_cons.mpr ⟨fun h => zoX4_keepBelow, List.forall_mem_cons.mpr ⟨fun h => zoX4_shareNewOnes, List.forall_mem_cons.mpr ⟨fun h => zoX4_tabulate, List.forall_mem_cons.mpr ⟨fun h => zoX4_firstLike, List.forall_mem_cons.mpr ⟨fun h => zoX4_choosesAlike, List.forall_mem_cons.mpr ⟨fun h => zoX4_actOf, List.forall_mem_cons.mpr ⟨fun h => zoX4_askAll, fun _ h => absurd h List.not_mem_nil⟩⟩⟩⟩⟩⟩⟩⟩⟩⟩⟩⟩⟩⟩⟩⟩⟩⟩⟩⟩
def zMR_2 : List zEn := [zeX4_settle, zeX4_weigh, zeX4_pull, zeX4_follow, zeX4_anyLures, zeX5_init, zeX5_copyOf, zeX5_obey, zeX5_acts, zeX5_oldStep, zeX5_newStep, zeX5_actOf, zeX6_init, zeX6_bringAsTold, zeX6_bring, zeX6_pass, zeX6_move, zeX7_init, zeX7_feed, zeX7_putBytes]
theorem zMR_2_ok : ∀ e ∈ zMR_2, e.2.2.2.2.2.2.2.2.2.2.1 = true → zEok e := by
  unfold zMR_2
  exact List.forall_mem_cons.mpr ⟨fun h => zoX4_settle, List.forall_mem_cons.mpr ⟨fun h => zoX4_weigh, List.forall_mem_cons.mpr ⟨fun h => zoX4_pull, List.forall_mem_cons.mpr ⟨fun h => zoX4_follow, List.forall_mem_cons.mpr ⟨fun h => zoX4_anyLures, List.forall_mem_cons.mpr ⟨fun h => zoX5_init, List.forall_mem_cons.mpr ⟨fun h => zoX5_copyOf, List.forall_mem_cons.mpr ⟨fun h => zoX5_obey, List.forall_mem_cons.mpr ⟨fun h => zoX5_acts, List.forall_mem_cons.mpr ⟨fun h => zoX5_oldStep, List.forall_mem_cons.mpr ⟨fun h => zoX5_newStep, List.forall_mem_cons.mpr ⟨fun h => zoX5_actOf, List.forall_mem_cons.mpr ⟨fun h => zoX6_init, List.forall_mem_cons.mpr ⟨fun h => zoX6_bringAsTold, List.forall_mem_cons.mpr ⟨fun h => zoX6_bring, List.forall_mem_cons.mpr ⟨fun h => zoX6_pass, List.forall_mem_cons.mpr ⟨fun h => zoX6_move, List.forall_mem_cons.mpr ⟨fun h => zoX7_init, List.forall_mem_cons.mpr ⟨fun h => zoX7_feed, List.forall_mem_cons.mpr ⟨fun h => zoX7_putBytes, fun _ h => absurd h List.not_mem_nil⟩⟩⟩⟩⟩⟩⟩⟩⟩⟩⟩⟩⟩⟩⟩⟩⟩⟩⟩⟩
def zMR_3 : List zEn := [zeX7_town, zeX7_fault, zeX7_where, zeX7_hold, zeX7_ask, zeX7_choose, zeX7_has, zeX7_seed, zeX7_go, zeX7_passYear, zeX7_again, zeX7_held, zeX7_earned, zeX7_rest, zeX7_act, zeX7_worth, zeX7_gain, zeX7_best, zeX7_bestAct, zeX7_earnedBy]
theorem zMR_3_ok : ∀ e ∈ zMR_3, e.2.2.2.2.2.2.2.2.2.2.1 = true → zEok e := by
  unfold zMR_3
  exact List.forall_mem_cons.mpr ⟨fun h => zoX7_town, List.forall_mem_cons.mpr ⟨fun h => zoX7_fault, List.forall_mem_cons.mpr ⟨fun h => zoX7_where, List.forall_mem_cons.mpr ⟨fun h => zoX7_hold, List.forall_mem_cons.mpr ⟨fun h => zoX7_ask, List.forall_mem_cons.mpr ⟨fun h => zoX7_choose, List.forall_mem_cons.mpr ⟨fun h => zoX7_has, List.forall_mem_cons.mpr ⟨fun h => zoX7_seed, List.forall_mem_cons.mpr ⟨fun h => zoX7_go, List.forall_mem_cons.mpr ⟨fun h => zoX7_passYear, List.forall_mem_cons.mpr ⟨fun h => zoX7_again, List.forall_mem_cons.mpr ⟨fun h => zoX7_held, List.forall_mem_cons.mpr ⟨fun h => zoX7_earned, List.forall_mem_cons.mpr ⟨fun h => zoX7_rest, List.forall_mem_cons.mpr ⟨fun h => zoX7_act, List.forall_mem_cons.mpr ⟨fun h => zoX7_worth, List.forall_mem_cons.mpr ⟨fun h => zoX7_gain, List.forall_mem_cons.mpr ⟨fun h => zoX7_best, List.forall_mem_cons.mpr ⟨fun h => zoX7_bestAct, List.forall_mem_cons.mpr ⟨fun h => zoX7_earnedBy, fun _ h => absurd h List.not_mem_nil⟩⟩⟩⟩⟩⟩⟩⟩⟩⟩⟩⟩⟩⟩⟩⟩⟩⟩⟩⟩
def zMR_4 : List zEn := [zeX7_paid, zeX7_leavings, zeX7_kindest, zeX7_paidByLaw, zeX7_promise, zeX7_shape, zeX7_fit, zeX7_worthOfShape, zeX7_late, zeX7_lures, zeX7_edge, zeX7_change, zeX7_led, zeX7_size, zeX7_baker, zeX7_sort, zeX7_trouble, zeX7_isTown, zeX7_isBaker, zeX7_isSort]
theorem zMR_4_ok : ∀ e ∈ zMR_4, e.2.2.2.2.2.2.2.2.2.2.1 = true → zEok e := by
  unfold zMR_4
  exact List.forall_mem_cons.mpr ⟨fun h => zoX7_paid, List.forall_mem_cons.mpr ⟨fun h => zoX7_leavings, List.forall_mem_cons.mpr ⟨fun h => zoX7_kindest, List.forall_mem_cons.mpr ⟨fun h => zoX7_paidByLaw, List.forall_mem_cons.mpr ⟨fun h => zoX7_promise, List.forall_mem_cons.mpr ⟨fun h => zoX7_shape, List.forall_mem_cons.mpr ⟨fun h => zoX7_fit, List.forall_mem_cons.mpr ⟨fun h => zoX7_worthOfShape, List.forall_mem_cons.mpr ⟨fun h => zoX7_late, List.forall_mem_cons.mpr ⟨fun h => zoX7_lures, List.forall_mem_cons.mpr ⟨fun h => zoX7_edge, List.forall_mem_cons.mpr ⟨fun h => zoX7_change, List.forall_mem_cons.mpr ⟨fun h => absurd h (by decide), List.forall_mem_cons.mpr ⟨fun h => zoX7_size, List.forall_mem_cons.mpr ⟨fun h => zoX7_baker, List.forall_mem_cons.mpr ⟨fun h => zoX7_sort, List.forall_mem_cons.mpr ⟨fun h => zoX7_trouble, List.forall_mem_cons.mpr ⟨fun h => zoX7_isTown, List.forall_mem_cons.mpr ⟨fun h => zoX7_isBaker, List.forall_mem_cons.mpr ⟨fun h => zoX7_isSort, fun _ h => absurd h List.not_mem_nil⟩⟩⟩⟩⟩⟩⟩⟩⟩⟩⟩⟩⟩⟩⟩⟩⟩⟩⟩⟩
def zMR_5 : List zEn := [zeX7_isStep, zeX7_isLaw, zeX7_isBuyer, zeX7_home, zeX7_troubleAhead, zeX7_troubleOfOutcome, zeX7_openMarket, zeX7_openYear, zeX7_stage, zeX7_worthAtRest, zeX8_init, zeX8_isTold, zeX9_init, zeX9_thrown, zeX9_refused, zeX9_lost, zeX9_denied, zeX9_done, zeX9_told, zeX9_granted]
theorem zMR_5_ok : ∀ e ∈ zMR_5, e.2.2.2.2.2.2.2.2.2.2.1 = true → zEok e := by
  unfold zMR_5
  exact List.forall_mem_cons.mpr ⟨fun h => zoX7_isStep, List.forall_mem_cons.mpr ⟨fun h => zoX7_isLaw, List.forall_mem_cons.mpr ⟨fun h => zoX7_isBuyer, List.forall_mem_cons.mpr ⟨fun h => zoX7_home, List.forall_mem_cons.mpr ⟨fun h => zoX7_troubleAhead, List.forall_mem_cons.mpr ⟨fun h => zoX7_troubleOfOutcome, List.forall_mem_cons.mpr ⟨fun h => zoX7_openMarket, List.forall_mem_cons.mpr ⟨fun h => zoX7_openYear, List.forall_mem_cons.mpr ⟨fun h => zoX7_stage, List.forall_mem_cons.mpr ⟨fun h => zoX7_worthAtRest, List.forall_mem_cons.mpr ⟨fun h => zoX8_init, List.forall_mem_cons.mpr ⟨fun h => zoX8_isTold, List.forall_mem_cons.mpr ⟨fun h => zoX9_init, List.forall_mem_cons.mpr ⟨fun h => zoX9_thrown, List.forall_mem_cons.mpr ⟨fun h => zoX9_refused, List.forall_mem_cons.mpr ⟨fun h => zoX9_lost, List.forall_mem_cons.mpr ⟨fun h => zoX9_denied, List.forall_mem_cons.mpr ⟨fun h => zoX9_done, List.forall_mem_cons.mpr ⟨fun h => zoX9_told, List.forall_mem_cons.mpr ⟨fun h => zoX9_granted, fun _ h => absurd h List.not_mem_nil⟩⟩⟩⟩⟩⟩⟩⟩⟩⟩⟩⟩⟩⟩⟩⟩⟩⟩⟩⟩
def zMR_6 : List zEn := [zeX9_in, zeX9_byteAt, zeX9_isLetter, zeX9_isDigit, zeX9_wordOf, zeX9_goesOn, zeX9_wrong, zeX9_wrongHere, zeX9_isWord, zeX9_eatsSign, zeX9_readWhole, zeX9_readPart, zeX9_readTown, zeX9_readLine, zeX9_readNamed, zeX9_readBaker, zeX9_readSort, zeX9_readPrices, zeX9_readKeep, zeX9_feed]
theorem zMR_6_ok : ∀ e ∈ zMR_6, e.2.2.2.2.2.2.2.2.2.2.1 = true → zEok e := by
  unfold zMR_6
  exact List.forall_mem_cons.mpr ⟨fun h => zoX9_in, List.forall_mem_cons.mpr ⟨fun h => zoX9_byteAt, List.forall_mem_cons.mpr ⟨fun h => zoX9_isLetter, List.forall_mem_cons.mpr ⟨fun h => zoX9_isDigit, List.forall_mem_cons.mpr ⟨fun h => zoX9_wordOf, List.forall_mem_cons.mpr ⟨fun h => zoX9_goesOn, List.forall_mem_cons.mpr ⟨fun h => zoX9_wrong, List.forall_mem_cons.mpr ⟨fun h => zoX9_wrongHere, List.forall_mem_cons.mpr ⟨fun h => zoX9_isWord, List.forall_mem_cons.mpr ⟨fun h => zoX9_eatsSign, List.forall_mem_cons.mpr ⟨fun h => zoX9_readWhole, List.forall_mem_cons.mpr ⟨fun h => zoX9_readPart, List.forall_mem_cons.mpr ⟨fun h => zoX9_readTown, List.forall_mem_cons.mpr ⟨fun h => zoX9_readLine, List.forall_mem_cons.mpr ⟨fun h => zoX9_readNamed, List.forall_mem_cons.mpr ⟨fun h => zoX9_readBaker, List.forall_mem_cons.mpr ⟨fun h => zoX9_readSort, List.forall_mem_cons.mpr ⟨fun h => zoX9_readPrices, List.forall_mem_cons.mpr ⟨fun h => zoX9_readKeep, List.forall_mem_cons.mpr ⟨fun h => zoX9_feed, fun _ h => absurd h List.not_mem_nil⟩⟩⟩⟩⟩⟩⟩⟩⟩⟩⟩⟩⟩⟩⟩⟩⟩⟩⟩⟩
def zMR_7 : List zEn := [zeX9_town, zeX9_fault, zeX9_where, zeX9_laysLaw, zeX9_looksFar, zeX9_leaving, zeX9_nearOf, zeX9_mostNear, zeX9_valueOf, zeX9_choiceOf, zeX9_cell, zeX9_chooses, zeX9_goes, zeX9_freshAsTold, zeX9_isBaker, zeX9_isSort, zeX9_isStep, zeX9_pricesAsked, zeX9_hold, zeX9_ask]
theorem zMR_7_ok : ∀ e ∈ zMR_7, e.2.2.2.2.2.2.2.2.2.2.1 = true → zEok e := by
  unfold zMR_7
  exact List.forall_mem_cons.mpr ⟨fun h => zoX9_town, List.forall_mem_cons.mpr ⟨fun h => zoX9_fault, List.forall_mem_cons.mpr ⟨fun h => zoX9_where, List.forall_mem_cons.mpr ⟨fun h => zoX9_laysLaw, List.forall_mem_cons.mpr ⟨fun h => zoX9_looksFar, List.forall_mem_cons.mpr ⟨fun h => zoX9_leaving, List.forall_mem_cons.mpr ⟨fun h => zoX9_nearOf, List.forall_mem_cons.mpr ⟨fun h => zoX9_mostNear, List.forall_mem_cons.mpr ⟨fun h => zoX9_valueOf, List.forall_mem_cons.mpr ⟨fun h => zoX9_choiceOf, List.forall_mem_cons.mpr ⟨fun h => zoX9_cell, List.forall_mem_cons.mpr ⟨fun h => zoX9_chooses, List.forall_mem_cons.mpr ⟨fun h => zoX9_goes, List.forall_mem_cons.mpr ⟨fun h => zoX9_freshAsTold, List.forall_mem_cons.mpr ⟨fun h => zoX9_isBaker, List.forall_mem_cons.mpr ⟨fun h => zoX9_isSort, List.forall_mem_cons.mpr ⟨fun h => zoX9_isStep, List.forall_mem_cons.mpr ⟨fun h => zoX9_pricesAsked, List.forall_mem_cons.mpr ⟨fun h => zoX9_hold, List.forall_mem_cons.mpr ⟨fun h => zoX9_ask, fun _ h => absurd h List.not_mem_nil⟩⟩⟩⟩⟩⟩⟩⟩⟩⟩⟩⟩⟩⟩⟩⟩⟩⟩⟩⟩
def zMR_8 : List zEn := [zeX9_choose, zeX9_has, zeX9_seed, zeX9_draws, zeX9_passes, zeX9_go, zeX9_again, zeX9_held, zeX9_earned, zeX9_actsOf, zeX9_allActs, zeX9_isTooMuch, zeX9_stride, zeX9_actOf, zeX9_oldOf, zeX9_newOf, zeX9_pricesBy, zeX9_worthAt, zeX9_gainOf, zeX9_picks]
theorem zMR_8_ok : ∀ e ∈ zMR_8, e.2.2.2.2.2.2.2.2.2.2.1 = true → zEok e := by
  unfold zMR_8
  exact List.forall_mem_cons.mpr ⟨fun h => zoX9_choose, List.forall_mem_cons.mpr ⟨fun h => zoX9_has, List.forall_mem_cons.mpr ⟨fun h => zoX9_seed, List.forall_mem_cons.mpr ⟨fun h => zoX9_draws, List.forall_mem_cons.mpr ⟨fun h => zoX9_passes, List.forall_mem_cons.mpr ⟨fun h => zoX9_go, List.forall_mem_cons.mpr ⟨fun h => zoX9_again, List.forall_mem_cons.mpr ⟨fun h => zoX9_held, List.forall_mem_cons.mpr ⟨fun h => zoX9_earned, List.forall_mem_cons.mpr ⟨fun h => zoX9_actsOf, List.forall_mem_cons.mpr ⟨fun h => zoX9_allActs, List.forall_mem_cons.mpr ⟨fun h => zoX9_isTooMuch, List.forall_mem_cons.mpr ⟨fun h => zoX9_stride, List.forall_mem_cons.mpr ⟨fun h => zoX9_actOf, List.forall_mem_cons.mpr ⟨fun h => zoX9_oldOf, List.forall_mem_cons.mpr ⟨fun h => zoX9_newOf, List.forall_mem_cons.mpr ⟨fun h => zoX9_pricesBy, List.forall_mem_cons.mpr ⟨fun h => zoX9_worthAt, List.forall_mem_cons.mpr ⟨fun h => zoX9_gainOf, List.forall_mem_cons.mpr ⟨fun h => zoX9_picks, fun _ h => absurd h List.not_mem_nil⟩⟩⟩⟩⟩⟩⟩⟩⟩⟩⟩⟩⟩⟩⟩⟩⟩⟩⟩⟩
def zMR_9 : List zEn := [zeX9_puts, zeX9_year, zeX9_restsOne, zeX9_restsTwo, zeX9_restsThree, zeX9_rests, zeX9_beginsFromHeld, zeX9_rest, zeX9_act, zeX9_worth, zeX9_earnsBy, zeX9_bestAct, zeX9_gain, zeX9_best, zeX9_plays, zeX9_refusesLaw, zeX9_paid, zeX9_leavings, zeX9_kindest, zeX9_worthOf]
theorem zMR_9_ok : ∀ e ∈ zMR_9, e.2.2.2.2.2.2.2.2.2.2.1 = true → zEok e := by
  unfold zMR_9
  exact List.forall_mem_cons.mpr ⟨fun h => zoX9_puts, List.forall_mem_cons.mpr ⟨fun h => zoX9_year, List.forall_mem_cons.mpr ⟨fun h => zoX9_restsOne, List.forall_mem_cons.mpr ⟨fun h => zoX9_restsTwo, List.forall_mem_cons.mpr ⟨fun h => zoX9_restsThree, List.forall_mem_cons.mpr ⟨fun h => zoX9_rests, List.forall_mem_cons.mpr ⟨fun h => zoX9_beginsFromHeld, List.forall_mem_cons.mpr ⟨fun h => zoX9_rest, List.forall_mem_cons.mpr ⟨fun h => zoX9_act, List.forall_mem_cons.mpr ⟨fun h => zoX9_worth, List.forall_mem_cons.mpr ⟨fun h => zoX9_earnsBy, List.forall_mem_cons.mpr ⟨fun h => zoX9_bestAct, List.forall_mem_cons.mpr ⟨fun h => zoX9_gain, List.forall_mem_cons.mpr ⟨fun h => zoX9_best, List.forall_mem_cons.mpr ⟨fun h => zoX9_plays, List.forall_mem_cons.mpr ⟨fun h => zoX9_refusesLaw, List.forall_mem_cons.mpr ⟨fun h => zoX9_paid, List.forall_mem_cons.mpr ⟨fun h => zoX9_leavings, List.forall_mem_cons.mpr ⟨fun h => zoX9_kindest, List.forall_mem_cons.mpr ⟨fun h => zoX9_worthOf, fun _ h => absurd h List.not_mem_nil⟩⟩⟩⟩⟩⟩⟩⟩⟩⟩⟩⟩⟩⟩⟩⟩⟩⟩⟩⟩
def zMR_10 : List zEn := [zeX9_promise, zeX9_shaped, zeX9_shape, zeX9_fit, zeX9_late, zeX9_lures, zeX9_somebodyLures, zeX9_edge, zeX9_change, zeX9_led, zeX9_size, zeX9_baker, zeX9_sort, zeX9_trouble, zeJ9_floorDiv_f86c9, zeJ9_max_7cf53, zeJ9_max_f86c9, zeJ9_min_7cf53, zeJ7_fill_d0a16, zeJ7_fill_53178]
theorem zMR_10_ok : ∀ e ∈ zMR_10, e.2.2.2.2.2.2.2.2.2.2.1 = true → zEok e := by
  unfold zMR_10
  exact List.forall_mem_cons.mpr ⟨fun h => zoX9_promise, List.forall_mem_cons.mpr ⟨fun h => zoX9_shaped, List.forall_mem_cons.mpr ⟨fun h => zoX9_shape, List.forall_mem_cons.mpr ⟨fun h => zoX9_fit, List.forall_mem_cons.mpr ⟨fun h => zoX9_late, List.forall_mem_cons.mpr ⟨fun h => zoX9_lures, List.forall_mem_cons.mpr ⟨fun h => zoX9_somebodyLures, List.forall_mem_cons.mpr ⟨fun h => zoX9_edge, List.forall_mem_cons.mpr ⟨fun h => zoX9_change, List.forall_mem_cons.mpr ⟨fun h => zoX9_led, List.forall_mem_cons.mpr ⟨fun h => zoX9_size, List.forall_mem_cons.mpr ⟨fun h => zoX9_baker, List.forall_mem_cons.mpr ⟨fun h => zoX9_sort, List.forall_mem_cons.mpr ⟨fun h => zoX9_trouble, List.forall_mem_cons.mpr ⟨fun h => zoJ9_floorDiv_f86c9, List.forall_mem_cons.mpr ⟨fun h => zoJ9_max_7cf53, List.forall_mem_cons.mpr ⟨fun h => zoJ9_max_f86c9, List.forall_mem_cons.mpr ⟨fun h => zoJ9_min_7cf53, List.forall_mem_cons.mpr ⟨fun h => zoJ7_fill_d0a16, List.forall_mem_cons.mpr ⟨fun h => zoJ7_fill_53178, fun _ h => absurd h List.not_mem_nil⟩⟩⟩⟩⟩⟩⟩⟩⟩⟩⟩⟩⟩⟩⟩⟩⟩⟩⟩⟩
def zMR_11 : List zEn := [zeL_led]
theorem zMR_11_ok : ∀ e ∈ zMR_11, e.2.2.2.2.2.2.2.2.2.2.1 = true → zEok e := by
  unfold zMR_11
  exact List.forall_mem_cons.mpr ⟨fun h => absurd h (by decide), fun _ h => absurd h List.not_mem_nil⟩
set_option maxRecDepth 100000 in
theorem zMR_cat : zMR = zMR_0 ++ (zMR_1 ++ (zMR_2 ++ (zMR_3 ++ (zMR_4 ++ (zMR_5 ++ (zMR_6 ++ (zMR_7 ++ (zMR_8 ++ (zMR_9 ++ (zMR_10 ++ (zMR_11))))))))))) := rfl
theorem zMR_ok : ∀ e ∈ zMR, e.2.2.2.2.2.2.2.2.2.2.1 = true → zEok e := by
  rw [zMR_cat]
  intro e h
  simp only [List.mem_append] at h
  rcases h with h | h | h | h | h | h | h | h | h | h | h | h
  · exact zMR_0_ok e h
  · exact zMR_1_ok e h
  · exact zMR_2_ok e h
  · exact zMR_3_ok e h
  · exact zMR_4_ok e h
  · exact zMR_5_ok e h
  · exact zMR_6_ok e h
  · exact zMR_7_ok e h
  · exact zMR_8_ok e h
  · exact zMR_9_ok e h
  · exact zMR_10_ok e h
  · exact zMR_11_ok e h

set_option maxRecDepth 100000 in
theorem zmk_eq : zMR.map (fun e => (e.2.2.2.2.1, e.2.2.2.2.2.1, e.2.2.2.2.2.2.2.2.2.2.1)) = zmk := rfl
set_option maxRecDepth 100000 in
theorem zyL_eq : zMR.map (fun e => e.1) = zyL := rfl
theorem zmi_of {a : Nat} {b k : Nat} (h : zmk[a]? = some (b, k, true)) : ∃ e, zMR[a]? = some e ∧ e.2.2.2.2.1 = b ∧ e.2.2.2.2.2.1 = k ∧ zEok e ∧ zmi a = some (e.1, e.2.1, e.2.2.1, e.2.2.2.1) ∧ zyL[a]? = some e.1 := by
  rw [← zmk_eq, List.getElem?_map] at h
  cases he : zMR[a]? with
  | none => rw [he] at h; cases h
  | some e =>
    rw [he] at h
    have h1 := Option.some.inj h
    simp only [Prod.mk.injEq] at h1
    refine ⟨e, rfl, h1.1, h1.2.1, zMR_ok e (List.mem_of_getElem? he) h1.2.2, ?_, ?_⟩
    · unfold zmi
      rw [he]
      simp only [h1.2.2, if_true]
    · rw [← zyL_eq, List.getElem?_map, he]; rfl
theorem zml_of {o idx a : Nat} (h : (zML.any (fun x => x.1 == o && x.2.1 == idx && x.2.2 == a) || zMN.any (fun x => x.1 == o && x.2.1 == idx && x.2.2 == a)) = true) {y : MethodName} (hy : zyL[a]? = some y) : Cond.methodLink (zonm o) idx y ∈ zTs ∨ ∃ host, Cond.methodLinkNest (zonm o) idx y host ∈ zTs := by
  rcases Bool.or_eq_true .. |>.mp h with h | h
  · obtain ⟨x, hx, h1⟩ := List.any_eq_true.mp h
    simp only [Bool.and_eq_true, beq_iff_eq] at h1
    obtain ⟨⟨rfl, rfl⟩, rfl⟩ := h1
    obtain ⟨y', h2, h3⟩ := zML_ok x hx
    cases hy.symm.trans h2
    exact Or.inl h3
  · obtain ⟨x, hx, h1⟩ := List.any_eq_true.mp h
    simp only [Bool.and_eq_true, beq_iff_eq] at h1
    obtain ⟨⟨rfl, rfl⟩, rfl⟩ := h1
    obtain ⟨y', host, h2, h3⟩ := zMN_ok x hx
    cases hy.symm.trans h2
    exact Or.inr ⟨host, h3⟩
theorem zci_of {o idx : Nat} {z : Int} (h : zCI.any (fun x => x.1 == o && x.2.1 == idx && x.2.2 == z) = true) : ∃ v : Int32, v.toInt = z ∧ Cond.constant (zonm o) idx v ∈ zTs := by
  obtain ⟨x, hx, h1⟩ := List.any_eq_true.mp h
  simp only [Bool.and_eq_true, beq_iff_eq] at h1
  obtain ⟨⟨rfl, rfl⟩, rfl⟩ := h1
  exact zCI_ok x hx
theorem zsr_of {o idx b : Nat} (h : zSR.any (fun x => x.1 == o && x.2.1 == idx && x.2.2 == b) = true) : zsref (zonm o) idx b := by
  obtain ⟨x, hx, h1⟩ := List.any_eq_true.mp h
  simp only [Bool.and_eq_true, beq_iff_eq] at h1
  obtain ⟨⟨rfl, rfl⟩, rfl⟩ := h1
  exact ⟨x, hx, rfl, rfl, rfl⟩
theorem ztb_ci {a : Nat} {e : zEn} (h : zMR[a]? = some e) : ztb.2.2.2 a = e.2.2.2.2.2.2.1 := by
  show (match zMR[a]? with | some e => e.2.2.2.2.2.2.1 | none => 0) = _
  rw [h]
theorem ztb_bud {a : Nat} {e : zEn} (h : zMR[a]? = some e) : ztb.2.2.1 a = e.2.2.2.2.2.2.2.1 := by
  show (match zMR[a]? with | some e => e.2.2.2.2.2.2.2.1 | none => (0, 0)) = _
  rw [h]
set_option maxHeartbeats 8000000 in
theorem zLkB_ok {o : Nat} {ini : Bool} {nm : String} {pc : Nat} {j : Instr} {len a b : Nat} {z : Int} (hini : ini = true → nm = "<init>") (h : zLkB o ini pc j len a b z = true) : zLk zcl zfty zTs zTg zmi ztb zsref (zonm o) nm pc j len a b z := by
  cases j
  case ldc2_w idx =>
    simp only [zLkB, Bool.and_eq_true, beq_iff_eq] at h
    obtain ⟨x, hx, h1⟩ := List.any_eq_true.mp h.2
    simp only [Bool.and_eq_true, beq_iff_eq] at h1
    obtain ⟨⟨rfl, rfl⟩, rfl⟩ := h1
    exact ⟨h.1, zCL_ok x hx⟩
  case ldc idx =>
    simp only [zLkB, Bool.and_eq_true, beq_iff_eq] at h
    refine ⟨h.1, fun e => ?_, fun e => ?_⟩
    · rw [if_pos e] at h; exact zci_of h.2
    · rw [if_neg e] at h; exact zsr_of h.2
  case ldc_w idx =>
    simp only [zLkB, Bool.and_eq_true, beq_iff_eq] at h
    refine ⟨h.1, fun e => ?_, fun e => ?_⟩
    · rw [if_pos e] at h; exact zci_of h.2
    · rw [if_neg e] at h; exact zsr_of h.2
  case tableswitch dflt lo hi offs =>
    simp only [zLkB, Bool.and_eq_true, decide_eq_true_eq, List.all_eq_true] at h
    exact h
  case getfield idx =>
    simp only [zLkB, Bool.and_eq_true, beq_iff_eq, Bool.or_eq_true] at h
    refine ⟨h.1, ?_⟩
    rcases h.2 with h2 | h2
    · obtain ⟨x, hx, h1⟩ := List.any_eq_true.mp h2
      simp only [Bool.and_eq_true, beq_iff_eq] at h1
      obtain ⟨⟨⟨⟨rfl, rfl⟩, rfl⟩, rfl⟩, rfl⟩ := h1
      obtain ⟨C, T, N, q1, q2, q3, q4, q5, q6⟩ := zFL_ok x hx
      exact ⟨C, T, N, q1, q2, by rw [q3], Or.inl q6⟩
    · obtain ⟨x, hx, h1⟩ := List.any_eq_true.mp h2
      simp only [Bool.and_eq_true, beq_iff_eq] at h1
      obtain ⟨⟨⟨⟨rfl, rfl⟩, rfl⟩, rfl⟩, rfl⟩ := h1
      obtain ⟨C, T, N, host, q1, q2, q3, q4, q6⟩ := zFN_ok x hx
      exact ⟨C, T, N, q1, q2, by rw [q3], Or.inr ⟨host, q6⟩⟩
  case putfield idx =>
    simp only [zLkB, Bool.and_eq_true, beq_iff_eq, Bool.or_eq_true] at h
    refine ⟨h.1, ?_⟩
    rcases h.2 with h2 | h2
    · obtain ⟨x, hx, h1⟩ := List.any_eq_true.mp h2
      simp only [Bool.and_eq_true, beq_iff_eq, Bool.or_eq_true, Bool.not_eq_true'] at h1
      obtain ⟨⟨⟨⟨⟨rfl, rfl⟩, rfl⟩, rfl⟩, rfl⟩, h1⟩ := h1
      obtain ⟨C, T, N, q1, q2, q3, q4, q5, q6⟩ := zFL_ok x hx
      refine ⟨C, T, N, q1, q2, by rw [q3], Or.inl ⟨q6, ?_⟩⟩
      cases hf : x.2.2.2.2.2 with
      | false => exact Or.inl (q4.trans hf)
      | true =>
        rcases h1 with h1 | ⟨h1, h3⟩
        · rw [hf] at h1; cases h1
        · exact Or.inr ⟨q4.trans hf, hini h1, by rw [q5, h3]⟩
    · obtain ⟨x, hx, h1⟩ := List.any_eq_true.mp h2
      simp only [Bool.and_eq_true, beq_iff_eq, Bool.not_eq_true'] at h1
      obtain ⟨⟨⟨⟨⟨rfl, rfl⟩, rfl⟩, rfl⟩, rfl⟩, h1⟩ := h1
      obtain ⟨C, T, N, host, q1, q2, q3, q4, q6⟩ := zFN_ok x hx
      exact ⟨C, T, N, q1, q2, by rw [q3], Or.inr ⟨host, q6, q4.trans h1⟩⟩
  case newarray t =>
    simp only [zLkB, Bool.and_eq_true, beq_iff_eq, decide_eq_true_eq] at h
    exact ⟨h.1, by rw [h.2.1]; exact zAC_ok a h.2.2.1 h.2.2.2, h.2.1, h.2.2.1, h.2.2.2⟩
  case multianewarray idx n =>
    simp only [zLkB, Bool.and_eq_true, beq_iff_eq] at h
    obtain ⟨x, hx, h1⟩ := List.any_eq_true.mp h.2.2
    simp only [Bool.and_eq_true, beq_iff_eq] at h1
    obtain ⟨⟨⟨rfl, rfl⟩, rfl⟩, rfl⟩ := h1
    obtain ⟨q1, q2⟩ := zMA_ok x hx
    refine ⟨h.1, h.2.1, q1, q2, ?_, ?_⟩
    · rcases q1 with ⟨q, -⟩ | ⟨q, -⟩ <;> rw [q]
      · exact zAO_ok.1
      · exact zAO_ok.2
    · rcases q1 with ⟨-, q⟩ | ⟨-, q⟩ <;> rw [q]
      · exact zAC_ok 10 (by omega) (by omega)
      · exact zAC_ok 11 (by omega) (by omega)
  case new idx =>
    simp only [zLkB, Bool.and_eq_true, beq_iff_eq, Bool.not_eq_true', beq_eq_false_iff_ne] at h
    obtain ⟨x, hx, h1⟩ := List.any_eq_true.mp h.2.2
    simp only [Bool.and_eq_true, beq_iff_eq] at h1
    obtain ⟨⟨rfl, rfl⟩, rfl⟩ := h1
    exact ⟨h.1, fun e => absurd e h.2.1, fun _ => zNL_ok x hx⟩
  case invokespecial idx =>
    simp only [zLkB, Bool.and_eq_true, beq_iff_eq] at h
    refine ⟨h.1, fun e => ?_, fun e => ?_⟩
    · rw [if_pos e] at h
      obtain ⟨x, hx, h1⟩ := List.any_eq_true.mp h.2
      simp only [Bool.and_eq_true, beq_iff_eq] at h1
      obtain ⟨rfl, rfl⟩ := h1
      exact ⟨zOL_ok x hx, zOi_ok⟩
    · rw [if_neg e] at h
      simp only [Bool.and_eq_true, beq_iff_eq] at h
      obtain ⟨e1, k1, k2, k3, k4, k5, k6⟩ := zmi_of h.2.2
      obtain ⟨m1, m2, m3, m4, m5, m6, m7, m8, m9, m10, -⟩ := k4
      exact ⟨_, _, _, _, k5, m2, m3, by rw [← k2]; exact m4, m5, m10 k3, zml_of h.2.1 k6⟩
  case invokevirtual idx =>
    simp only [zLkB, Bool.and_eq_true, beq_iff_eq, Bool.not_eq_true', beq_eq_false_iff_ne] at h
    refine ⟨h.1, fun e => absurd e h.2.1, fun e => ?_, fun e => ?_, fun e6 e7 e8 => ?_⟩
    · have h2 := h.2.2
      rw [if_pos e] at h2
      obtain ⟨x, hx, h1⟩ := List.any_eq_true.mp h2
      simp only [Bool.and_eq_true, beq_iff_eq] at h1
      obtain ⟨rfl, rfl⟩ := h1
      exact zSL_ok x hx
    · have h2 := h.2.2
      rw [if_neg (by omega), if_pos e] at h2
      obtain ⟨x, hx, h1⟩ := List.any_eq_true.mp h2
      simp only [Bool.and_eq_true, beq_iff_eq] at h1
      obtain ⟨rfl, rfl⟩ := h1
      exact zSC_ok x hx
    · have h2 := h.2.2
      rw [if_neg e7, if_neg e8] at h2
      simp only [Bool.and_eq_true, beq_iff_eq] at h2
      obtain ⟨e1, k1, k2, k3, k4, k5, k6⟩ := zmi_of h2.2
      obtain ⟨m1, m2, m3, m4, m5, m6, m7, m8, m9, m10, -⟩ := k4
      exact ⟨_, _, _, _, k5, m2, m3, by rw [← k2]; exact m4, m5, by rw [ztb_ci k1]; exact m9 k3, zml_of h2.1 k6⟩
  case invokestatic idx =>
    simp only [zLkB, Bool.and_eq_true, beq_iff_eq, Bool.not_eq_true', beq_eq_false_iff_ne] at h
    refine ⟨h.1, fun e => ?_, fun e5 e6 => ?_, fun e => absurd e h.2.1⟩
    · have h2 := h.2.2
      rw [if_pos e] at h2
      obtain ⟨x, hx, h1⟩ := List.any_eq_true.mp h2
      simp only [Bool.and_eq_true, beq_iff_eq] at h1
      obtain ⟨rfl, rfl⟩ := h1
      exact ⟨zAL_ok x hx, zAc_ok⟩
    · have h2 := h.2.2
      rw [if_neg e5] at h2
      simp only [Bool.and_eq_true, beq_iff_eq] at h2
      obtain ⟨e1, k1, k2, k3, k4, k5, k6⟩ := zmi_of h2.2
      obtain ⟨m1, m2, m3, m4, m5, m6, m7, m8, m9, m10, -⟩ := k4
      exact ⟨_, _, _, _, k5, m2, m3, by rw [← k2]; exact m4, m5, m8 k3, zml_of h2.1 k6⟩
  all_goals simpa [zLkB, zLk] using h
theorem zlookup {l : List (Nat × zIns)} {pc : Nat} {r : zIns} (h : l.lookup pc = some r) : (pc, r) ∈ l := by
  induction l with
  | nil => cases h
  | cons x l ih =>
    obtain ⟨k, v⟩ := x
    rw [List.lookup_cons] at h
    by_cases e : pc = k
    · subst e
      simp at h
      subst h
      exact List.mem_cons_self
    · have e2 : (pc == k) = false := by simpa using e
      rw [e2] at h
      exact List.mem_cons_of_mem _ (ih h)
theorem zchk_ok {o : Nat} {ini : Bool} {nm : String} {bytes : ByteArray} {cd : List (Nat × zIns)} (hini : ini = true → nm = "<init>") (h : zchk o ini bytes cd = true) : ∀ pc j len a b z, (fun pc => cd.lookup pc) pc = some (j, len, a, b, z) → decode bytes pc = .ok (j, len) ∧ zLk zcl zfty zTs zTg zmi ztb zsref (zonm o) nm pc j len a b z := by
  intro pc j len a b z hl
  have h1 := List.all_eq_true.mp h _ (zlookup hl)
  simp only [Bool.and_eq_true, decide_eq_true_eq] at h1
  exact ⟨h1.1, zLkB_ok hini h1.2⟩
theorem zfc9_0 : ∀ k, k < 7 → zfc (zfty 0 k) ≠ 9 := by decide
theorem zfc9_1 : ∀ k, k < 5 → zfc (zfty 1 k) ≠ 9 := by decide
theorem zfc9_2 : ∀ k, k < 4 → zfc (zfty 2 k) ≠ 9 := by decide
theorem zfc9_3 : ∀ k, k < 14 → zfc (zfty 3 k) ≠ 9 := by decide
theorem zfc9_4 : ∀ k, k < 15 → zfc (zfty 4 k) ≠ 9 := by decide
theorem zfc9_5 : ∀ k, k < 14 → zfc (zfty 5 k) ≠ 9 := by decide
theorem zfc9_6 : ∀ k, k < 9 → zfc (zfty 6 k) ≠ 9 := by decide
theorem zfc9_7 : ∀ k, k < 14 → zfc (zfty 7 k) ≠ 9 := by decide
theorem zfc9_8 : ∀ k, k < 16 → zfc (zfty 8 k) ≠ 9 := by decide
theorem zfc9_9 : ∀ k, k < 53 → zfc (zfty 9 k) ≠ 9 := by decide
theorem zCl_ok : zClOk zcl zfty zTs ztb := by
  intro ci C T N h
  have hl : ci < 10 := (List.getElem?_eq_some_iff.mp h).1
  rcases (show ci = 0 ∨ ci = 1 ∨ ci = 2 ∨ ci = 3 ∨ ci = 4 ∨ ci = 5 ∨ ci = 6 ∨ ci = 7 ∨ ci = 8 ∨ ci = 9 by omega) with rfl | rfl | rfl | rfl | rfl | rfl | rfl | rfl | rfl | rfl
  · obtain ⟨rfl, rfl, rfl⟩ : RX0 = C ∧ TX0 = T ∧ 7 = N := by
      have h2 : (RX0, TX0, 7) = (C, T, N) := Option.some.inj h
      simp only [Prod.mk.injEq] at h2
      exact h2
    exact ⟨by omega, rfl, fun k hk => ⟨tyX0_ok k hk, zfc9_0 k hk⟩, nmX0, zlay_0, zinst_0⟩
  · obtain ⟨rfl, rfl, rfl⟩ : RX1 = C ∧ TX1 = T ∧ 5 = N := by
      have h2 : (RX1, TX1, 5) = (C, T, N) := Option.some.inj h
      simp only [Prod.mk.injEq] at h2
      exact h2
    exact ⟨by omega, rfl, fun k hk => ⟨tyX1_ok k hk, zfc9_1 k hk⟩, nmX1, zlay_1, zinst_1⟩
  · obtain ⟨rfl, rfl, rfl⟩ : RX2 = C ∧ TX2 = T ∧ 4 = N := by
      have h2 : (RX2, TX2, 4) = (C, T, N) := Option.some.inj h
      simp only [Prod.mk.injEq] at h2
      exact h2
    exact ⟨by omega, rfl, fun k hk => ⟨tyX2_ok k hk, zfc9_2 k hk⟩, nmX2, zlay_2, zinst_2⟩
  · obtain ⟨rfl, rfl, rfl⟩ : RX3 = C ∧ TX3 = T ∧ 14 = N := by
      have h2 : (RX3, TX3, 14) = (C, T, N) := Option.some.inj h
      simp only [Prod.mk.injEq] at h2
      exact h2
    exact ⟨by omega, rfl, fun k hk => ⟨tyX3_ok k hk, zfc9_3 k hk⟩, nmX3, zlay_3, zinst_3⟩
  · obtain ⟨rfl, rfl, rfl⟩ : RX4 = C ∧ TX4 = T ∧ 15 = N := by
      have h2 : (RX4, TX4, 15) = (C, T, N) := Option.some.inj h
      simp only [Prod.mk.injEq] at h2
      exact h2
    exact ⟨by omega, rfl, fun k hk => ⟨tyX4_ok k hk, zfc9_4 k hk⟩, nmX4, zlay_4, zinst_4⟩
  · obtain ⟨rfl, rfl, rfl⟩ : RX5 = C ∧ TX5 = T ∧ 14 = N := by
      have h2 : (RX5, TX5, 14) = (C, T, N) := Option.some.inj h
      simp only [Prod.mk.injEq] at h2
      exact h2
    exact ⟨by omega, rfl, fun k hk => ⟨tyX5_ok k hk, zfc9_5 k hk⟩, nmX5, zlay_5, zinst_5⟩
  · obtain ⟨rfl, rfl, rfl⟩ : RX6 = C ∧ TX6 = T ∧ 9 = N := by
      have h2 : (RX6, TX6, 9) = (C, T, N) := Option.some.inj h
      simp only [Prod.mk.injEq] at h2
      exact h2
    exact ⟨by omega, rfl, fun k hk => ⟨tyX6_ok k hk, zfc9_6 k hk⟩, nmX6, zlay_6, zinst_6⟩
  · obtain ⟨rfl, rfl, rfl⟩ : RX7 = C ∧ TX7 = T ∧ 14 = N := by
      have h2 : (RX7, TX7, 14) = (C, T, N) := Option.some.inj h
      simp only [Prod.mk.injEq] at h2
      exact h2
    exact ⟨by omega, rfl, fun k hk => ⟨tyX7_ok k hk, zfc9_7 k hk⟩, nmX7, zlay_7, zinst_7⟩
  · obtain ⟨rfl, rfl, rfl⟩ : RX8 = C ∧ TX8 = T ∧ 16 = N := by
      have h2 : (RX8, TX8, 16) = (C, T, N) := Option.some.inj h
      simp only [Prod.mk.injEq] at h2
      exact h2
    exact ⟨by omega, rfl, fun k hk => ⟨tyX8_ok k hk, zfc9_8 k hk⟩, nmX8, zlay_8, zinst_8⟩
  · obtain ⟨rfl, rfl, rfl⟩ : RX9 = C ∧ TX9 = T ∧ 53 = N := by
      have h2 : (RX9, TX9, 53) = (C, T, N) := Option.some.inj h
      simp only [Prod.mk.injEq] at h2
      exact h2
    exact ⟨by omega, rfl, fun k hk => ⟨tyX9_ok k hk, zfc9_9 k hk⟩, nmX9, zlay_9, zinst_9⟩
