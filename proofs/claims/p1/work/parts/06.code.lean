/-! the methods: their words, their decoded code -/
def zdck (cc : ByteArray) : Nat → List (List (Option (Instr × Nat))) → Bool := zall fun i r => zall (fun j x => match x with
  | none => true
  | some y => decide (decode cc (16 * i + j) = .ok y)) 0 r
theorem zin_ok {cc : ByteArray} {t : List (List (Option (Instr × Nat)))} (h : zdck cc 0 t = true) {pc : Nat} {x : Instr × Nat} (hx : zin t pc = some x) : decode cc pc = .ok x := by
  unfold zin at hx
  cases h1 : t[pc / 16]? with
  | none => rw [h1] at hx; simp at hx
  | some r =>
    rw [h1] at hx
    dsimp only at hx
    cases h2 : r[pc % 16]? with
    | none => rw [h2] at hx; simp at hx
    | some y =>
      rw [h2] at hx
      dsimp only at hx
      subst hx
      have h3 := zall_get h _ r h1
      have h4 := zall_get h3 _ _ h2
      simp only [decide_eq_true_eq] at h4
      rw [show 16 * (0 + pc / 16) + (0 + pc % 16) = pc by omega] at h4
      exact h4
def zOK (mi : zMi) : Prop := zdck mi.2.1 0 mi.2.2.2.2.2 = true
theorem zo_X0_init : zOK zm_X0_init := by unfold zOK; decide +kernel
theorem zo_X0_clear : zOK zm_X0_clear := by unfold zOK; decide +kernel
theorem zo_X0_become : zOK zm_X0_become := by unfold zOK; decide +kernel
theorem zo_X0_has : zOK zm_X0_has := by unfold zOK; decide +kernel
theorem zo_X0_hasAll : zOK zm_X0_hasAll := by unfold zOK; decide +kernel
theorem zo_X0_join : zOK zm_X0_join := by unfold zOK; decide +kernel
theorem zo_X0_lefts : zOK zm_X0_lefts := by unfold zOK; decide +kernel
theorem zo_X0_useHands : zOK zm_X0_useHands := by unfold zOK; decide +kernel
theorem zo_X0_swapTurned : zOK zm_X0_swapTurned := by unfold zOK; decide +kernel
theorem zo_X0_leastOf : zOK zm_X0_leastOf := by unfold zOK; decide +kernel
theorem zo_X0_least : zOK zm_X0_least := by unfold zOK; decide +kernel
theorem zo_X0_greatest : zOK zm_X0_greatest := by unfold zOK; decide +kernel
theorem zo_X0_allTurned : zOK zm_X0_allTurned := by unfold zOK; decide +kernel
theorem zo_X0_allMarks : zOK zm_X0_allMarks := by unfold zOK; decide +kernel
theorem zo_X0_welcome : zOK zm_X0_welcome := by unfold zOK; decide +kernel
theorem zo_X0_opensTo : zOK zm_X0_opensTo := by unfold zOK; decide +kernel
theorem zo_X0_attempt : zOK zm_X0_attempt := by unfold zOK; decide +kernel
theorem zo_X0_calm : zOK zm_X0_calm := by unfold zOK; decide +kernel
theorem zo_X1_init : zOK zm_X1_init := by unfold zOK; decide +kernel
theorem zo_X1_become : zOK zm_X1_become := by unfold zOK; decide +kernel
theorem zo_X1_turned : zOK zm_X1_turned := by unfold zOK; decide +kernel
theorem zo_X1_setTurned : zOK zm_X1_setTurned := by unfold zOK; decide +kernel
theorem zo_X1_marks : zOK zm_X1_marks := by unfold zOK; decide +kernel
theorem zo_X1_enter : zOK zm_X1_enter := by unfold zOK; decide +kernel
theorem zo_X1_calm : zOK zm_X1_calm := by unfold zOK; decide +kernel
theorem zo_X2_init : zOK zm_X2_init := by unfold zOK; decide +kernel
theorem zo_X2_readAll : zOK zm_X2_readAll := by unfold zOK; decide +kernel
theorem zo_X2_fail : zOK zm_X2_fail := by unfold zOK; decide +kernel
theorem zo_X2_allAreThere : zOK zm_X2_allAreThere := by unfold zOK; decide +kernel
theorem zo_X2_readLine : zOK zm_X2_readLine := by unfold zOK; decide +kernel
theorem zo_X2_failToken : zOK zm_X2_failToken := by unfold zOK; decide +kernel
theorem zo_X2_wantsStop : zOK zm_X2_wantsStop := by unfold zOK; decide +kernel
theorem zo_X2_wantsNumber : zOK zm_X2_wantsNumber := by unfold zOK; decide +kernel
theorem zo_X2_readOne : zOK zm_X2_readOne := by unfold zOK; decide +kernel
theorem zo_X2_readLeft : zOK zm_X2_readLeft := by unfold zOK; decide +kernel
theorem zo_X2_readSlack : zOK zm_X2_readSlack := by unfold zOK; decide +kernel
theorem zo_X2_readPlan : zOK zm_X2_readPlan := by unfold zOK; decide +kernel
theorem zo_X2_next : zOK zm_X2_next := by unfold zOK; decide +kernel
theorem zo_X2_isLetter : zOK zm_X2_isLetter := by unfold zOK; decide +kernel
theorem zo_X2_isFigure : zOK zm_X2_isFigure := by unfold zOK; decide +kernel
theorem zo_X2_word : zOK zm_X2_word := by unfold zOK; decide +kernel
theorem zo_X2_spells : zOK zm_X2_spells := by unfold zOK; decide +kernel
theorem zo_X2_wordText : zOK zm_X2_wordText := by unfold zOK; decide +kernel
theorem zo_X3_init : zOK zm_X3_init := by unfold zOK; decide +kernel
theorem zo_X3_play : zOK zm_X3_play := by unfold zOK; decide +kernel
theorem zo_X3_note : zOK zm_X3_note := by unfold zOK; decide +kernel
theorem zo_X4_init : zOK zm_X4_init := by unfold zOK; decide +kernel
theorem zo_X4_inRow : zOK zm_X4_inRow := by unfold zOK; decide +kernel
theorem zo_X4_bestOrder : zOK zm_X4_bestOrder := by unfold zOK; decide +kernel
theorem zo_X4_arrange : zOK zm_X4_arrange := by unfold zOK; decide +kernel
theorem zo_X4_takeIfBetter : zOK zm_X4_takeIfBetter := by unfold zOK; decide +kernel
theorem zo_X4_shortestWait : zOK zm_X4_shortestWait := by unfold zOK; decide +kernel
theorem zo_X4_makesWay : zOK zm_X4_makesWay := by unfold zOK; decide +kernel
theorem zo_X5_init : zOK zm_X5_init := by unfold zOK; decide +kernel
theorem zo_X5_renew : zOK zm_X5_renew := by unfold zOK; decide +kernel
theorem zo_X5_faultAt : zOK zm_X5_faultAt := by unfold zOK; decide +kernel
theorem zo_X5_faultAs : zOK zm_X5_faultAs := by unfold zOK; decide +kernel
theorem zo_X5_write : zOK zm_X5_write := by unfold zOK; decide +kernel
theorem zo_X6_init : zOK zm_X6_init := by unfold zOK; decide +kernel
theorem zo_X6_note : zOK zm_X6_note := by unfold zOK; decide +kernel
theorem zo_X6_fits : zOK zm_X6_fits := by unfold zOK; decide +kernel
theorem zo_X6_clearTally : zOK zm_X6_clearTally := by unfold zOK; decide +kernel
theorem zo_X6_addToTally : zOK zm_X6_addToTally := by unfold zOK; decide +kernel
theorem zo_X6_worst : zOK zm_X6_worst := by unfold zOK; decide +kernel
theorem zo_X7_init : zOK zm_X7_init := by unfold zOK; decide +kernel
theorem zo_X7_feed : zOK zm_X7_feed := by unfold zOK; decide +kernel
theorem zo_X7_end : zOK zm_X7_end := by unfold zOK; decide +kernel
theorem zo_X7_text : zOK zm_X7_text := by unfold zOK; decide +kernel
theorem zo_X7_fault : zOK zm_X7_fault := by unfold zOK; decide +kernel
theorem zo_X7_rule : zOK zm_X7_rule := by unfold zOK; decide +kernel
theorem zo_X7_one : zOK zm_X7_one := by unfold zOK; decide +kernel
theorem zo_X7_act : zOK zm_X7_act := by unfold zOK; decide +kernel
theorem zo_X7_alter : zOK zm_X7_alter := by unfold zOK; decide +kernel
theorem zo_X7_mostOf : zOK zm_X7_mostOf := by unfold zOK; decide +kernel
theorem zo_X7_slack : zOK zm_X7_slack := by unfold zOK; decide +kernel
theorem zo_X7_plan : zOK zm_X7_plan := by unfold zOK; decide +kernel
theorem zo_X7_cut : zOK zm_X7_cut := by unfold zOK; decide +kernel
theorem zo_X7_turn : zOK zm_X7_turn := by unfold zOK; decide +kernel
theorem zo_X7_rest : zOK zm_X7_rest := by unfold zOK; decide +kernel
theorem zo_X7_runs : zOK zm_X7_runs := by unfold zOK; decide +kernel
theorem zo_X7_ahead : zOK zm_X7_ahead := by unfold zOK; decide +kernel
theorem zo_X7_round : zOK zm_X7_round := by unfold zOK; decide +kernel
theorem zo_X7_rehearse : zOK zm_X7_rehearse := by unfold zOK; decide +kernel
theorem zo_X7_order : zOK zm_X7_order := by unfold zOK; decide +kernel
theorem zo_X7_await : zOK zm_X7_await := by unfold zOK; decide +kernel
theorem zo_X7_asksForRow : zOK zm_X7_asksForRow := by unfold zOK; decide +kernel
theorem zo_X7_hands : zOK zm_X7_hands := by unfold zOK; decide +kernel
theorem zo_X7_clean : zOK zm_X7_clean := by unfold zOK; decide +kernel
theorem zo_X7_rehearseWith : zOK zm_X7_rehearseWith := by unfold zOK; decide +kernel
theorem zo_X7_trade : zOK zm_X7_trade := by unfold zOK; decide +kernel
theorem zo_X7_loose : zOK zm_X7_loose := by unfold zOK; decide +kernel
theorem zo_X7_rehearseSlack : zOK zm_X7_rehearseSlack := by unfold zOK; decide +kernel
theorem zo_X7_mean : zOK zm_X7_mean := by unfold zOK; decide +kernel
theorem zo_X7_luck : zOK zm_X7_luck := by unfold zOK; decide +kernel
theorem zo_X7_rehearseWithout : zOK zm_X7_rehearseWithout := by unfold zOK; decide +kernel
theorem zo_X7_odds : zOK zm_X7_odds := by unfold zOK; decide +kernel
theorem zo_X7_allOdds : zOK zm_X7_allOdds := by unfold zOK; decide +kernel
theorem zo_X7_partOfFraction : zOK zm_X7_partOfFraction := by unfold zOK; decide +kernel
theorem zo_X7_commonDivisor : zOK zm_X7_commonDivisor := by unfold zOK; decide +kernel
theorem zo_X7_see : zOK zm_X7_see := by unfold zOK; decide +kernel
theorem zo_X7_forget : zOK zm_X7_forget := by unfold zOK; decide +kernel
theorem zo_X7_counts : zOK zm_X7_counts := by unfold zOK; decide +kernel
theorem zo_X7_slacks : zOK zm_X7_slacks := by unfold zOK; decide +kernel
theorem zo_X7_look : zOK zm_X7_look := by unfold zOK; decide +kernel
theorem zo_X7_tallyGuesses : zOK zm_X7_tallyGuesses := by unfold zOK; decide +kernel
theorem zo_X7_drift : zOK zm_X7_drift := by unfold zOK; decide +kernel
theorem zo_X7_keep : zOK zm_X7_keep := by unfold zOK; decide +kernel
theorem zo_X7_back : zOK zm_X7_back := by unfold zOK; decide +kernel
theorem zo_X7_sheet : zOK zm_X7_sheet := by unfold zOK; decide +kernel
theorem zo_X7_lay : zOK zm_X7_lay := by unfold zOK; decide +kernel
theorem zo_X7_read : zOK zm_X7_read := by unfold zOK; decide +kernel
theorem zo_X7_torn : zOK zm_X7_torn := by unfold zOK; decide +kernel
theorem zo_X7_count : zOK zm_X7_count := by unfold zOK; decide +kernel
theorem zo_X8_init : zOK zm_X8_init := by unfold zOK; decide +kernel
theorem zo_X8_in : zOK zm_X8_in := by unfold zOK; decide +kernel
theorem zo_X8_feed : zOK zm_X8_feed := by unfold zOK; decide +kernel
theorem zo_X8_end : zOK zm_X8_end := by unfold zOK; decide +kernel
theorem zo_X8_byteAt : zOK zm_X8_byteAt := by unfold zOK; decide +kernel
theorem zo_X8_fails : zOK zm_X8_fails := by unfold zOK; decide +kernel
theorem zo_X8_nameHere : zOK zm_X8_nameHere := by unfold zOK; decide +kernel
theorem zo_X8_step : zOK zm_X8_step := by unfold zOK; decide +kernel
theorem zo_X8_other : zOK zm_X8_other := by unfold zOK; decide +kernel
theorem zo_X8_readPlan : zOK zm_X8_readPlan := by unfold zOK; decide +kernel
theorem zo_X8_readMore : zOK zm_X8_readMore := by unfold zOK; decide +kernel
theorem zo_X8_readLine : zOK zm_X8_readLine := by unfold zOK; decide +kernel
theorem zo_X8_text : zOK zm_X8_text := by unfold zOK; decide +kernel
theorem zo_X8_fault : zOK zm_X8_fault := by unfold zOK; decide +kernel
theorem zo_X8_isOne : zOK zm_X8_isOne := by unfold zOK; decide +kernel
theorem zo_X8_countAt : zOK zm_X8_countAt := by unfold zOK; decide +kernel
theorem zo_X8_countOf : zOK zm_X8_countOf := by unfold zOK; decide +kernel
theorem zo_X8_leastOn : zOK zm_X8_leastOn := by unfold zOK; decide +kernel
theorem zo_X8_mostOn : zOK zm_X8_mostOn := by unfold zOK; decide +kernel
theorem zo_X8_isNear : zOK zm_X8_isNear := by unfold zOK; decide +kernel
theorem zo_X8_rule : zOK zm_X8_rule := by unfold zOK; decide +kernel
theorem zo_X8_one : zOK zm_X8_one := by unfold zOK; decide +kernel
theorem zo_X8_act : zOK zm_X8_act := by unfold zOK; decide +kernel
theorem zo_X8_puts : zOK zm_X8_puts := by unfold zOK; decide +kernel
theorem zo_X8_alter : zOK zm_X8_alter := by unfold zOK; decide +kernel
theorem zo_X8_slack : zOK zm_X8_slack := by unfold zOK; decide +kernel
theorem zo_X8_all : zOK zm_X8_all := by unfold zOK; decide +kernel
theorem zo_X8_plan : zOK zm_X8_plan := by unfold zOK; decide +kernel
theorem zo_X8_cut : zOK zm_X8_cut := by unfold zOK; decide +kernel
theorem zo_X8_triesOn : zOK zm_X8_triesOn := by unfold zOK; decide +kernel
theorem zo_X8_restsOn : zOK zm_X8_restsOn := by unfold zOK; decide +kernel
theorem zo_X8_turns : zOK zm_X8_turns := by unfold zOK; decide +kernel
theorem zo_X8_turn : zOK zm_X8_turn := by unfold zOK; decide +kernel
theorem zo_X8_rest : zOK zm_X8_rest := by unfold zOK; decide +kernel
theorem zo_X8_copies : zOK zm_X8_copies := by unfold zOK; decide +kernel
theorem zo_X8_planGoes : zOK zm_X8_planGoes := by unfold zOK; decide +kernel
theorem zo_X8_tries : zOK zm_X8_tries := by unfold zOK; decide +kernel
theorem zo_X8_runs : zOK zm_X8_runs := by unfold zOK; decide +kernel
theorem zo_X8_ahead : zOK zm_X8_ahead := by unfold zOK; decide +kernel
theorem zo_X8_round : zOK zm_X8_round := by unfold zOK; decide +kernel
theorem zo_X8_bitsOf : zOK zm_X8_bitsOf := by unfold zOK; decide +kernel
theorem zo_X8_powerOf : zOK zm_X8_powerOf := by unfold zOK; decide +kernel
theorem zo_X8_figureOf : zOK zm_X8_figureOf := by unfold zOK; decide +kernel
theorem zo_X8_order : zOK zm_X8_order := by unfold zOK; decide +kernel
theorem zo_X8_isBehind : zOK zm_X8_isBehind := by unfold zOK; decide +kernel
theorem zo_X8_await : zOK zm_X8_await := by unfold zOK; decide +kernel
theorem zo_X8_hands : zOK zm_X8_hands := by unfold zOK; decide +kernel
theorem zo_X8_clean : zOK zm_X8_clean := by unfold zOK; decide +kernel
theorem zo_X8_trade : zOK zm_X8_trade := by unfold zOK; decide +kernel
theorem zo_X8_loose : zOK zm_X8_loose := by unfold zOK; decide +kernel
theorem zo_X8_lowest : zOK zm_X8_lowest := by unfold zOK; decide +kernel
theorem zo_X8_byAway : zOK zm_X8_byAway := by unfold zOK; decide +kernel
theorem zo_X8_mean : zOK zm_X8_mean := by unfold zOK; decide +kernel
theorem zo_X8_luck : zOK zm_X8_luck := by unfold zOK; decide +kernel
theorem zo_X8_see : zOK zm_X8_see := by unfold zOK; decide +kernel
theorem zo_X8_forget : zOK zm_X8_forget := by unfold zOK; decide +kernel
theorem zo_X8_isAsSeen : zOK zm_X8_isAsSeen := by unfold zOK; decide +kernel
theorem zo_X8_fitsOf : zOK zm_X8_fitsOf := by unfold zOK; decide +kernel
theorem zo_X8_counts : zOK zm_X8_counts := by unfold zOK; decide +kernel
theorem zo_X8_slacks : zOK zm_X8_slacks := by unfold zOK; decide +kernel
theorem zo_X8_look : zOK zm_X8_look := by unfold zOK; decide +kernel
theorem zo_X8_drift : zOK zm_X8_drift := by unfold zOK; decide +kernel
theorem zo_X8_keep : zOK zm_X8_keep := by unfold zOK; decide +kernel
theorem zo_X8_back : zOK zm_X8_back := by unfold zOK; decide +kernel
theorem zo_X8_sheet : zOK zm_X8_sheet := by unfold zOK; decide +kernel
theorem zo_X8_lay : zOK zm_X8_lay := by unfold zOK; decide +kernel
theorem zo_X8_read : zOK zm_X8_read := by unfold zOK; decide +kernel
theorem zo_X8_torn : zOK zm_X8_torn := by unfold zOK; decide +kernel
theorem zo_X8_count : zOK zm_X8_count := by unfold zOK; decide +kernel
theorem zo_J6_bitCount_0f7a4 : zOK zm_J6_bitCount_0f7a4 := by unfold zOK; decide +kernel
theorem zo_J0_length_8abf5 : zOK zm_J0_length_8abf5 := by unfold zOK; decide +kernel
theorem zo_J0_charAt_5068e : zOK zm_J0_charAt_5068e := by unfold zOK; decide +kernel
theorem zo_J0_coder_7d493 : zOK zm_J0_coder_7d493 := by unfold zOK; decide +kernel
theorem zo_J0_isLatin1_aae02 : zOK zm_J0_isLatin1_aae02 := by unfold zOK; decide +kernel
theorem zo_J0_checkIndex_df160 : zOK zm_J0_checkIndex_df160 := by unfold zOK; decide +kernel
theorem zo_J1_charAt_3b067 : zOK zm_J1_charAt_3b067 := by unfold zOK; decide +kernel
theorem zo_J2_getChar_3b067 : zOK zm_J2_getChar_3b067 := by unfold zOK; decide +kernel
theorem zo_J2_length_9d52b : zOK zm_J2_length_9d52b := by unfold zOK; decide +kernel
theorem zo_J2_charAt_3b067 : zOK zm_J2_charAt_3b067 := by unfold zOK; decide +kernel
theorem zo_J2_checkIndex_2214a : zOK zm_J2_checkIndex_2214a := by unfold zOK; decide +kernel
theorem zo_J7_fill_53178 : zOK zm_J7_fill_53178 := by unfold zOK; decide +kernel
theorem zo_J3_checkIndex_8e157 : zOK zm_J3_checkIndex_8e157 := by unfold zOK; decide +kernel
theorem zo_L_law : zOK zm_L_law := by unfold zOK; decide +kernel
theorem zoc_0 : ∀ mi ∈ ([zm_X0_init, zm_X0_clear, zm_X0_become, zm_X0_has, zm_X0_hasAll, zm_X0_join, zm_X0_lefts, zm_X0_useHands, zm_X0_swapTurned, zm_X0_leastOf, zm_X0_least, zm_X0_greatest, zm_X0_allTurned, zm_X0_allMarks, zm_X0_welcome, zm_X0_opensTo, zm_X0_attempt, zm_X0_calm, zm_X1_init, zm_X1_become] : List zMi), zOK mi := List.forall_mem_cons.mpr ⟨zo_X0_init, List.forall_mem_cons.mpr ⟨zo_X0_clear, List.forall_mem_cons.mpr ⟨zo_X0_become, List.forall_mem_cons.mpr ⟨zo_X0_has, List.forall_mem_cons.mpr ⟨zo_X0_hasAll, List.forall_mem_cons.mpr ⟨zo_X0_join, List.forall_mem_cons.mpr ⟨zo_X0_lefts, List.forall_mem_cons.mpr ⟨zo_X0_useHands, List.forall_mem_cons.mpr ⟨zo_X0_swapTurned, List.forall_mem_cons.mpr ⟨zo_X0_leastOf, List.forall_mem_cons.mpr ⟨zo_X0_least, List.forall_mem_cons.mpr ⟨zo_X0_greatest, List.forall_mem_cons.mpr ⟨zo_X0_allTurned, List.forall_mem_cons.mpr ⟨zo_X0_allMarks, List.forall_mem_cons.mpr ⟨zo_X0_welcome, List.forall_mem_cons.mpr ⟨zo_X0_opensTo, List.forall_mem_cons.mpr ⟨zo_X0_attempt, List.forall_mem_cons.mpr ⟨zo_X0_calm, List.forall_mem_cons.mpr ⟨zo_X1_init, List.forall_mem_cons.mpr ⟨zo_X1_become, fun _ h => absurd h List.not_mem_nil⟩⟩⟩⟩⟩⟩⟩⟩⟩⟩⟩⟩⟩⟩⟩⟩⟩⟩⟩⟩
theorem zoc_1 : ∀ mi ∈ ([zm_X1_turned, zm_X1_setTurned, zm_X1_marks, zm_X1_enter, zm_X1_calm, zm_X2_init, zm_X2_readAll, zm_X2_fail, zm_X2_allAreThere, zm_X2_readLine, zm_X2_failToken, zm_X2_wantsStop, zm_X2_wantsNumber, zm_X2_readOne, zm_X2_readLeft, zm_X2_readSlack, zm_X2_readPlan, zm_X2_next, zm_X2_isLetter, zm_X2_isFigure] : List zMi), zOK mi := List.forall_mem_cons.mpr ⟨zo_X1_turned, List.forall_mem_cons.mpr ⟨zo_X1_setTurned, List.forall_mem_cons.mpr ⟨zo_X1_marks, List.forall_mem_cons.mpr ⟨zo_X1_enter, List.forall_mem_cons.mpr ⟨zo_X1_calm, List.forall_mem_cons.mpr ⟨zo_X2_init, List.forall_mem_cons.mpr ⟨zo_X2_readAll, List.forall_mem_cons.mpr ⟨zo_X2_fail, List.forall_mem_cons.mpr ⟨zo_X2_allAreThere, List.forall_mem_cons.mpr ⟨zo_X2_readLine, List.forall_mem_cons.mpr ⟨zo_X2_failToken, List.forall_mem_cons.mpr ⟨zo_X2_wantsStop, List.forall_mem_cons.mpr ⟨zo_X2_wantsNumber, List.forall_mem_cons.mpr ⟨zo_X2_readOne, List.forall_mem_cons.mpr ⟨zo_X2_readLeft, List.forall_mem_cons.mpr ⟨zo_X2_readSlack, List.forall_mem_cons.mpr ⟨zo_X2_readPlan, List.forall_mem_cons.mpr ⟨zo_X2_next, List.forall_mem_cons.mpr ⟨zo_X2_isLetter, List.forall_mem_cons.mpr ⟨zo_X2_isFigure, fun _ h => absurd h List.not_mem_nil⟩⟩⟩⟩⟩⟩⟩⟩⟩⟩⟩⟩⟩⟩⟩⟩⟩⟩⟩⟩
theorem zoc_2 : ∀ mi ∈ ([zm_X2_word, zm_X2_spells, zm_X2_wordText, zm_X3_init, zm_X3_play, zm_X3_note, zm_X4_init, zm_X4_inRow, zm_X4_bestOrder, zm_X4_arrange, zm_X4_takeIfBetter, zm_X4_shortestWait, zm_X4_makesWay, zm_X5_init, zm_X5_renew, zm_X5_faultAt, zm_X5_faultAs, zm_X5_write, zm_X6_init, zm_X6_note] : List zMi), zOK mi := List.forall_mem_cons.mpr ⟨zo_X2_word, List.forall_mem_cons.mpr ⟨zo_X2_spells, List.forall_mem_cons.mpr ⟨zo_X2_wordText, List.forall_mem_cons.mpr ⟨zo_X3_init, List.forall_mem_cons.mpr ⟨zo_X3_play, List.forall_mem_cons.mpr ⟨zo_X3_note, List.forall_mem_cons.mpr ⟨zo_X4_init, List.forall_mem_cons.mpr ⟨zo_X4_inRow, List.forall_mem_cons.mpr ⟨zo_X4_bestOrder, List.forall_mem_cons.mpr ⟨zo_X4_arrange, List.forall_mem_cons.mpr ⟨zo_X4_takeIfBetter, List.forall_mem_cons.mpr ⟨zo_X4_shortestWait, List.forall_mem_cons.mpr ⟨zo_X4_makesWay, List.forall_mem_cons.mpr ⟨zo_X5_init, List.forall_mem_cons.mpr ⟨zo_X5_renew, List.forall_mem_cons.mpr ⟨zo_X5_faultAt, List.forall_mem_cons.mpr ⟨zo_X5_faultAs, List.forall_mem_cons.mpr ⟨zo_X5_write, List.forall_mem_cons.mpr ⟨zo_X6_init, List.forall_mem_cons.mpr ⟨zo_X6_note, fun _ h => absurd h List.not_mem_nil⟩⟩⟩⟩⟩⟩⟩⟩⟩⟩⟩⟩⟩⟩⟩⟩⟩⟩⟩⟩
theorem zoc_3 : ∀ mi ∈ ([zm_X6_fits, zm_X6_clearTally, zm_X6_addToTally, zm_X6_worst, zm_X7_init, zm_X7_feed, zm_X7_end, zm_X7_text, zm_X7_fault, zm_X7_rule, zm_X7_one, zm_X7_act, zm_X7_alter, zm_X7_mostOf, zm_X7_slack, zm_X7_plan, zm_X7_cut, zm_X7_turn, zm_X7_rest, zm_X7_runs] : List zMi), zOK mi := List.forall_mem_cons.mpr ⟨zo_X6_fits, List.forall_mem_cons.mpr ⟨zo_X6_clearTally, List.forall_mem_cons.mpr ⟨zo_X6_addToTally, List.forall_mem_cons.mpr ⟨zo_X6_worst, List.forall_mem_cons.mpr ⟨zo_X7_init, List.forall_mem_cons.mpr ⟨zo_X7_feed, List.forall_mem_cons.mpr ⟨zo_X7_end, List.forall_mem_cons.mpr ⟨zo_X7_text, List.forall_mem_cons.mpr ⟨zo_X7_fault, List.forall_mem_cons.mpr ⟨zo_X7_rule, List.forall_mem_cons.mpr ⟨zo_X7_one, List.forall_mem_cons.mpr ⟨zo_X7_act, List.forall_mem_cons.mpr ⟨zo_X7_alter, List.forall_mem_cons.mpr ⟨zo_X7_mostOf, List.forall_mem_cons.mpr ⟨zo_X7_slack, List.forall_mem_cons.mpr ⟨zo_X7_plan, List.forall_mem_cons.mpr ⟨zo_X7_cut, List.forall_mem_cons.mpr ⟨zo_X7_turn, List.forall_mem_cons.mpr ⟨zo_X7_rest, List.forall_mem_cons.mpr ⟨zo_X7_runs, fun _ h => absurd h List.not_mem_nil⟩⟩⟩⟩⟩⟩⟩⟩⟩⟩⟩⟩⟩⟩⟩⟩⟩⟩⟩⟩
theorem zoc_4 : ∀ mi ∈ ([zm_X7_ahead, zm_X7_round, zm_X7_rehearse, zm_X7_order, zm_X7_await, zm_X7_asksForRow, zm_X7_hands, zm_X7_clean, zm_X7_rehearseWith, zm_X7_trade, zm_X7_loose, zm_X7_rehearseSlack, zm_X7_mean, zm_X7_luck, zm_X7_rehearseWithout, zm_X7_odds, zm_X7_allOdds, zm_X7_partOfFraction, zm_X7_commonDivisor, zm_X7_see] : List zMi), zOK mi := List.forall_mem_cons.mpr ⟨zo_X7_ahead, List.forall_mem_cons.mpr ⟨zo_X7_round, List.forall_mem_cons.mpr ⟨zo_X7_rehearse, List.forall_mem_cons.mpr ⟨zo_X7_order, List.forall_mem_cons.mpr ⟨zo_X7_await, List.forall_mem_cons.mpr ⟨zo_X7_asksForRow, List.forall_mem_cons.mpr ⟨zo_X7_hands, List.forall_mem_cons.mpr ⟨zo_X7_clean, List.forall_mem_cons.mpr ⟨zo_X7_rehearseWith, List.forall_mem_cons.mpr ⟨zo_X7_trade, List.forall_mem_cons.mpr ⟨zo_X7_loose, List.forall_mem_cons.mpr ⟨zo_X7_rehearseSlack, List.forall_mem_cons.mpr ⟨zo_X7_mean, List.forall_mem_cons.mpr ⟨zo_X7_luck, List.forall_mem_cons.mpr ⟨zo_X7_rehearseWithout, List.forall_mem_cons.mpr ⟨zo_X7_odds, List.forall_mem_cons.mpr ⟨zo_X7_allOdds, List.forall_mem_cons.mpr ⟨zo_X7_partOfFraction, List.forall_mem_cons.mpr ⟨zo_X7_commonDivisor, List.forall_mem_cons.mpr ⟨zo_X7_see, fun _ h => absurd h List.not_mem_nil⟩⟩⟩⟩⟩⟩⟩⟩⟩⟩⟩⟩⟩⟩⟩⟩⟩⟩⟩⟩
theorem zoc_5 : ∀ mi ∈ ([zm_X7_forget, zm_X7_counts, zm_X7_slacks, zm_X7_look, zm_X7_tallyGuesses, zm_X7_drift, zm_X7_keep, zm_X7_back, zm_X7_sheet, zm_X7_lay, zm_X7_read, zm_X7_torn, zm_X7_count, zm_X8_init, zm_X8_in, zm_X8_feed, zm_X8_end, zm_X8_byteAt, zm_X8_fails, zm_X8_nameHere] : List zMi), zOK mi := List.forall_mem_cons.mpr ⟨zo_X7_forget, List.forall_mem_cons.mpr ⟨zo_X7_counts, List.forall_mem_cons.mpr ⟨zo_X7_slacks, List.forall_mem_cons.mpr ⟨zo_X7_look, List.forall_mem_cons.mpr ⟨zo_X7_tallyGuesses, List.forall_mem_cons.mpr ⟨zo_X7_drift, List.forall_mem_cons.mpr ⟨zo_X7_keep, List.forall_mem_cons.mpr ⟨zo_X7_back, List.forall_mem_cons.mpr ⟨zo_X7_sheet, List.forall_mem_cons.mpr ⟨zo_X7_lay, List.forall_mem_cons.mpr ⟨zo_X7_read, List.forall_mem_cons.mpr ⟨zo_X7_torn, List.forall_mem_cons.mpr ⟨zo_X7_count, List.forall_mem_cons.mpr ⟨zo_X8_init, List.forall_mem_cons.mpr ⟨zo_X8_in, List.forall_mem_cons.mpr ⟨zo_X8_feed, List.forall_mem_cons.mpr ⟨zo_X8_end, List.forall_mem_cons.mpr ⟨zo_X8_byteAt, List.forall_mem_cons.mpr ⟨zo_X8_fails, List.forall_mem_cons.mpr ⟨zo_X8_nameHere, fun _ h => absurd h List.not_mem_nil⟩⟩⟩⟩⟩⟩⟩⟩⟩⟩⟩⟩⟩⟩⟩⟩⟩⟩⟩⟩
theorem zoc_6 : ∀ mi ∈ ([zm_X8_step, zm_X8_other, zm_X8_readPlan, zm_X8_readMore, zm_X8_readLine, zm_X8_text, zm_X8_fault, zm_X8_isOne, zm_X8_countAt, zm_X8_countOf, zm_X8_leastOn, zm_X8_mostOn, zm_X8_isNear, zm_X8_rule, zm_X8_one, zm_X8_act, zm_X8_puts, zm_X8_alter, zm_X8_slack, zm_X8_all] : List zMi), zOK mi := List.forall_mem_cons.mpr ⟨zo_X8_step, List.forall_mem_cons.mpr ⟨zo_X8_other, List.forall_mem_cons.mpr ⟨zo_X8_readPlan, List.forall_mem_cons.mpr ⟨zo_X8_readMore, List.forall_mem_cons.mpr ⟨zo_X8_readLine, List.forall_mem_cons.mpr ⟨zo_X8_text, List.forall_mem_cons.mpr ⟨zo_X8_fault, List.forall_mem_cons.mpr ⟨zo_X8_isOne, List.forall_mem_cons.mpr ⟨zo_X8_countAt, List.forall_mem_cons.mpr ⟨zo_X8_countOf, List.forall_mem_cons.mpr ⟨zo_X8_leastOn, List.forall_mem_cons.mpr ⟨zo_X8_mostOn, List.forall_mem_cons.mpr ⟨zo_X8_isNear, List.forall_mem_cons.mpr ⟨zo_X8_rule, List.forall_mem_cons.mpr ⟨zo_X8_one, List.forall_mem_cons.mpr ⟨zo_X8_act, List.forall_mem_cons.mpr ⟨zo_X8_puts, List.forall_mem_cons.mpr ⟨zo_X8_alter, List.forall_mem_cons.mpr ⟨zo_X8_slack, List.forall_mem_cons.mpr ⟨zo_X8_all, fun _ h => absurd h List.not_mem_nil⟩⟩⟩⟩⟩⟩⟩⟩⟩⟩⟩⟩⟩⟩⟩⟩⟩⟩⟩⟩
theorem zoc_7 : ∀ mi ∈ ([zm_X8_plan, zm_X8_cut, zm_X8_triesOn, zm_X8_restsOn, zm_X8_turns, zm_X8_turn, zm_X8_rest, zm_X8_copies, zm_X8_planGoes, zm_X8_tries, zm_X8_runs, zm_X8_ahead, zm_X8_round, zm_X8_bitsOf, zm_X8_powerOf, zm_X8_figureOf, zm_X8_order, zm_X8_isBehind, zm_X8_await, zm_X8_hands] : List zMi), zOK mi := List.forall_mem_cons.mpr ⟨zo_X8_plan, List.forall_mem_cons.mpr ⟨zo_X8_cut, List.forall_mem_cons.mpr ⟨zo_X8_triesOn, List.forall_mem_cons.mpr ⟨zo_X8_restsOn, List.forall_mem_cons.mpr ⟨zo_X8_turns, List.forall_mem_cons.mpr ⟨zo_X8_turn, List.forall_mem_cons.mpr ⟨zo_X8_rest, List.forall_mem_cons.mpr ⟨zo_X8_copies, List.forall_mem_cons.mpr ⟨zo_X8_planGoes, List.forall_mem_cons.mpr ⟨zo_X8_tries, List.forall_mem_cons.mpr ⟨zo_X8_runs, List.forall_mem_cons.mpr ⟨zo_X8_ahead, List.forall_mem_cons.mpr ⟨zo_X8_round, List.forall_mem_cons.mpr ⟨zo_X8_bitsOf, List.forall_mem_cons.mpr ⟨zo_X8_powerOf, List.forall_mem_cons.mpr ⟨zo_X8_figureOf, List.forall_mem_cons.mpr ⟨zo_X8_order, List.forall_mem_cons.mpr ⟨zo_X8_isBehind, List.forall_mem_cons.mpr ⟨zo_X8_await, List.forall_mem_cons.mpr ⟨zo_X8_hands, fun _ h => absurd h List.not_mem_nil⟩⟩⟩⟩⟩⟩⟩⟩⟩⟩⟩⟩⟩⟩⟩⟩⟩⟩⟩⟩
theorem zoc_8 : ∀ mi ∈ ([zm_X8_clean, zm_X8_trade, zm_X8_loose, zm_X8_lowest, zm_X8_byAway, zm_X8_mean, zm_X8_luck, zm_X8_see, zm_X8_forget, zm_X8_isAsSeen, zm_X8_fitsOf, zm_X8_counts, zm_X8_slacks, zm_X8_look, zm_X8_drift, zm_X8_keep, zm_X8_back, zm_X8_sheet, zm_X8_lay, zm_X8_read] : List zMi), zOK mi := List.forall_mem_cons.mpr ⟨zo_X8_clean, List.forall_mem_cons.mpr ⟨zo_X8_trade, List.forall_mem_cons.mpr ⟨zo_X8_loose, List.forall_mem_cons.mpr ⟨zo_X8_lowest, List.forall_mem_cons.mpr ⟨zo_X8_byAway, List.forall_mem_cons.mpr ⟨zo_X8_mean, List.forall_mem_cons.mpr ⟨zo_X8_luck, List.forall_mem_cons.mpr ⟨zo_X8_see, List.forall_mem_cons.mpr ⟨zo_X8_forget, List.forall_mem_cons.mpr ⟨zo_X8_isAsSeen, List.forall_mem_cons.mpr ⟨zo_X8_fitsOf, List.forall_mem_cons.mpr ⟨zo_X8_counts, List.forall_mem_cons.mpr ⟨zo_X8_slacks, List.forall_mem_cons.mpr ⟨zo_X8_look, List.forall_mem_cons.mpr ⟨zo_X8_drift, List.forall_mem_cons.mpr ⟨zo_X8_keep, List.forall_mem_cons.mpr ⟨zo_X8_back, List.forall_mem_cons.mpr ⟨zo_X8_sheet, List.forall_mem_cons.mpr ⟨zo_X8_lay, List.forall_mem_cons.mpr ⟨zo_X8_read, fun _ h => absurd h List.not_mem_nil⟩⟩⟩⟩⟩⟩⟩⟩⟩⟩⟩⟩⟩⟩⟩⟩⟩⟩⟩⟩
theorem zoc_9 : ∀ mi ∈ ([zm_X8_torn, zm_X8_count, zm_J6_bitCount_0f7a4, zm_J0_length_8abf5, zm_J0_charAt_5068e, zm_J0_coder_7d493, zm_J0_isLatin1_aae02, zm_J0_checkIndex_df160, zm_J1_charAt_3b067, zm_J2_getChar_3b067, zm_J2_length_9d52b, zm_J2_charAt_3b067, zm_J2_checkIndex_2214a, zm_J7_fill_53178, zm_J3_checkIndex_8e157, zm_L_law] : List zMi), zOK mi := List.forall_mem_cons.mpr ⟨zo_X8_torn, List.forall_mem_cons.mpr ⟨zo_X8_count, List.forall_mem_cons.mpr ⟨zo_J6_bitCount_0f7a4, List.forall_mem_cons.mpr ⟨zo_J0_length_8abf5, List.forall_mem_cons.mpr ⟨zo_J0_charAt_5068e, List.forall_mem_cons.mpr ⟨zo_J0_coder_7d493, List.forall_mem_cons.mpr ⟨zo_J0_isLatin1_aae02, List.forall_mem_cons.mpr ⟨zo_J0_checkIndex_df160, List.forall_mem_cons.mpr ⟨zo_J1_charAt_3b067, List.forall_mem_cons.mpr ⟨zo_J2_getChar_3b067, List.forall_mem_cons.mpr ⟨zo_J2_length_9d52b, List.forall_mem_cons.mpr ⟨zo_J2_charAt_3b067, List.forall_mem_cons.mpr ⟨zo_J2_checkIndex_2214a, List.forall_mem_cons.mpr ⟨zo_J7_fill_53178, List.forall_mem_cons.mpr ⟨zo_J3_checkIndex_8e157, List.forall_mem_cons.mpr ⟨zo_L_law, fun _ h => absurd h List.not_mem_nil⟩⟩⟩⟩⟩⟩⟩⟩⟩⟩⟩⟩⟩⟩⟩⟩
theorem zms_ok : ∀ mi ∈ zms, zOK mi := by
  show ∀ mi ∈ ([zm_X0_init, zm_X0_clear, zm_X0_become, zm_X0_has, zm_X0_hasAll, zm_X0_join, zm_X0_lefts, zm_X0_useHands, zm_X0_swapTurned, zm_X0_leastOf, zm_X0_least, zm_X0_greatest, zm_X0_allTurned, zm_X0_allMarks, zm_X0_welcome, zm_X0_opensTo, zm_X0_attempt, zm_X0_calm, zm_X1_init, zm_X1_become] : List zMi) ++ (([zm_X1_turned, zm_X1_setTurned, zm_X1_marks, zm_X1_enter, zm_X1_calm, zm_X2_init, zm_X2_readAll, zm_X2_fail, zm_X2_allAreThere, zm_X2_readLine, zm_X2_failToken, zm_X2_wantsStop, zm_X2_wantsNumber, zm_X2_readOne, zm_X2_readLeft, zm_X2_readSlack, zm_X2_readPlan, zm_X2_next, zm_X2_isLetter, zm_X2_isFigure] : List zMi) ++ (([zm_X2_word, zm_X2_spells, zm_X2_wordText, zm_X3_init, zm_X3_play, zm_X3_note, zm_X4_init, zm_X4_inRow, zm_X4_bestOrder, zm_X4_arrange, zm_X4_takeIfBetter, zm_X4_shortestWait, zm_X4_makesWay, zm_X5_init, zm_X5_renew, zm_X5_faultAt, zm_X5_faultAs, zm_X5_write, zm_X6_init, zm_X6_note] : List zMi) ++ (([zm_X6_fits, zm_X6_clearTally, zm_X6_addToTally, zm_X6_worst, zm_X7_init, zm_X7_feed, zm_X7_end, zm_X7_text, zm_X7_fault, zm_X7_rule, zm_X7_one, zm_X7_act, zm_X7_alter, zm_X7_mostOf, zm_X7_slack, zm_X7_plan, zm_X7_cut, zm_X7_turn, zm_X7_rest, zm_X7_runs] : List zMi) ++ (([zm_X7_ahead, zm_X7_round, zm_X7_rehearse, zm_X7_order, zm_X7_await, zm_X7_asksForRow, zm_X7_hands, zm_X7_clean, zm_X7_rehearseWith, zm_X7_trade, zm_X7_loose, zm_X7_rehearseSlack, zm_X7_mean, zm_X7_luck, zm_X7_rehearseWithout, zm_X7_odds, zm_X7_allOdds, zm_X7_partOfFraction, zm_X7_commonDivisor, zm_X7_see] : List zMi) ++ (([zm_X7_forget, zm_X7_counts, zm_X7_slacks, zm_X7_look, zm_X7_tallyGuesses, zm_X7_drift, zm_X7_keep, zm_X7_back, zm_X7_sheet, zm_X7_lay, zm_X7_read, zm_X7_torn, zm_X7_count, zm_X8_init, zm_X8_in, zm_X8_feed, zm_X8_end, zm_X8_byteAt, zm_X8_fails, zm_X8_nameHere] : List zMi) ++ (([zm_X8_step, zm_X8_other, zm_X8_readPlan, zm_X8_readMore, zm_X8_readLine, zm_X8_text, zm_X8_fault, zm_X8_isOne, zm_X8_countAt, zm_X8_countOf, zm_X8_leastOn, zm_X8_mostOn, zm_X8_isNear, zm_X8_rule, zm_X8_one, zm_X8_act, zm_X8_puts, zm_X8_alter, zm_X8_slack, zm_X8_all] : List zMi) ++ (([zm_X8_plan, zm_X8_cut, zm_X8_triesOn, zm_X8_restsOn, zm_X8_turns, zm_X8_turn, zm_X8_rest, zm_X8_copies, zm_X8_planGoes, zm_X8_tries, zm_X8_runs, zm_X8_ahead, zm_X8_round, zm_X8_bitsOf, zm_X8_powerOf, zm_X8_figureOf, zm_X8_order, zm_X8_isBehind, zm_X8_await, zm_X8_hands] : List zMi) ++ (([zm_X8_clean, zm_X8_trade, zm_X8_loose, zm_X8_lowest, zm_X8_byAway, zm_X8_mean, zm_X8_luck, zm_X8_see, zm_X8_forget, zm_X8_isAsSeen, zm_X8_fitsOf, zm_X8_counts, zm_X8_slacks, zm_X8_look, zm_X8_drift, zm_X8_keep, zm_X8_back, zm_X8_sheet, zm_X8_lay, zm_X8_read] : List zMi) ++ (([zm_X8_torn, zm_X8_count, zm_J6_bitCount_0f7a4, zm_J0_length_8abf5, zm_J0_charAt_5068e, zm_J0_coder_7d493, zm_J0_isLatin1_aae02, zm_J0_checkIndex_df160, zm_J1_charAt_3b067, zm_J2_getChar_3b067, zm_J2_length_9d52b, zm_J2_charAt_3b067, zm_J2_checkIndex_2214a, zm_J7_fill_53178, zm_J3_checkIndex_8e157, zm_L_law] : List zMi)))))))))), zOK mi
  exact List.forall_mem_append.mpr ⟨zoc_0, List.forall_mem_append.mpr ⟨zoc_1, List.forall_mem_append.mpr ⟨zoc_2, List.forall_mem_append.mpr ⟨zoc_3, List.forall_mem_append.mpr ⟨zoc_4, List.forall_mem_append.mpr ⟨zoc_5, List.forall_mem_append.mpr ⟨zoc_6, List.forall_mem_append.mpr ⟨zoc_7, List.forall_mem_append.mpr ⟨zoc_8, zoc_9⟩⟩⟩⟩⟩⟩⟩⟩⟩
