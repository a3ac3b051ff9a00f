/-! the words of code: one pass over the table -/
def zpk : List Nat → List Cond → List Cond
  | [], _ => []
  | d :: ds, l => match l.drop d with
    | [] => []
    | w :: r => w :: zpk ds r
theorem zpk_mem : ∀ (ds : List Nat) (l : List Cond) (w : Cond), w ∈ zpk ds l → w ∈ l
  | [], l, w, h => by simp [zpk] at h
  | d :: ds, l, w, h => by
    rw [zpk] at h
    cases hd : l.drop d with
    | nil => rw [hd] at h; simp at h
    | cons a r =>
      rw [hd] at h
      refine List.mem_of_mem_drop (i := d) ?_
      rw [hd]
      rcases List.mem_cons.mp h with e | e
      · rw [e]; exact List.mem_cons_self
      · exact List.mem_cons_of_mem a (zpk_mem ds r w e)
def zCW (mi : zMi) : Prop := Cond.code mi.1 mi.2.1 mi.2.2.1 mi.2.2.2.1 ∈ zgd
def zcwf (mi : zMi) : Cond := .code mi.1 mi.2.1 mi.2.2.1 mi.2.2.2.1
def zmsS : List zMi := [zm_X7_init, zm_X2_init, zm_X0_init, zm_X1_init, zm_X3_init, zm_X4_init, zm_X6_init, zm_X5_init, zm_X7_feed, zm_X7_end, zm_X7_text, zm_X2_readAll, zm_X0_clear, zm_X2_next, zm_X2_isLetter, zm_X2_isFigure, zm_X2_allAreThere, zm_X2_fail, zm_X0_useHands, zm_X2_readLine, zm_X2_failToken, zm_X2_word, zm_X2_wordText, zm_X2_spells, zm_J0_length_8abf5, zm_J0_coder_7d493, zm_J0_charAt_5068e, zm_J0_isLatin1_aae02, zm_J1_charAt_3b067, zm_J0_checkIndex_df160, zm_J3_checkIndex_8e157, zm_J2_charAt_3b067, zm_J2_checkIndex_2214a, zm_J2_length_9d52b, zm_J2_getChar_3b067, zm_X2_readOne, zm_X2_wantsNumber, zm_X0_join, zm_X2_wantsStop, zm_X2_readLeft, zm_X2_readSlack, zm_X2_readPlan, zm_X0_become, zm_X1_become, zm_X7_fault, zm_X7_rule, zm_X0_lefts, zm_X0_least, zm_X1_turned, zm_X0_welcome, zm_X0_opensTo, zm_X7_one, zm_X0_has, zm_X1_marks, zm_X7_act, zm_X7_alter, zm_X7_mostOf, zm_X7_slack, zm_X7_plan, zm_X0_hasAll, zm_X7_cut, zm_X7_turn, zm_X0_attempt, zm_X0_leastOf, zm_X1_enter, zm_X1_setTurned, zm_X7_rest, zm_X0_calm, zm_X1_calm, zm_X7_runs, zm_X7_rehearse, zm_X3_play, zm_J7_fill_53178, zm_X3_note, zm_X0_greatest, zm_X7_ahead, zm_X7_round, zm_X7_order, zm_X7_asksForRow, zm_X4_bestOrder, zm_J6_bitCount_0f7a4, zm_X4_arrange, zm_X4_takeIfBetter, zm_X4_inRow, zm_X7_await, zm_X4_shortestWait, zm_X4_makesWay, zm_X7_hands, zm_X7_clean, zm_X7_rehearseWith, zm_X7_trade, zm_X0_swapTurned, zm_X7_loose, zm_X7_rehearseSlack, zm_X7_mean, zm_X7_odds, zm_X7_rehearseWithout, zm_X7_allOdds, zm_X7_partOfFraction, zm_X7_commonDivisor, zm_X7_luck, zm_X7_see, zm_X6_note, zm_X7_forget, zm_X7_counts, zm_X6_fits, zm_X7_slacks, zm_X7_look, zm_X7_tallyGuesses, zm_X6_clearTally, zm_X6_addToTally, zm_X6_worst, zm_X7_drift, zm_X7_keep, zm_X7_back, zm_X7_sheet, zm_X5_renew, zm_X7_lay, zm_X5_faultAt, zm_X5_write, zm_X7_read, zm_X5_faultAs, zm_X7_torn, zm_X7_count, zm_X0_allTurned, zm_X0_allMarks, zm_X8_init, zm_X8_feed, zm_X8_in, zm_X8_end, zm_X8_text, zm_X8_step, zm_X8_byteAt, zm_X8_fails, zm_X8_readLine, zm_X8_nameHere, zm_X8_readMore, zm_X8_other, zm_X8_readPlan, zm_X8_fault, zm_X8_rule, zm_X8_isNear, zm_X8_countOf, zm_X8_countAt, zm_X8_leastOn, zm_X8_one, zm_X8_isOne, zm_X8_act, zm_X8_alter, zm_X8_puts, zm_X8_slack, zm_X8_plan, zm_X8_all, zm_X8_cut, zm_X8_turn, zm_X8_turns, zm_X8_triesOn, zm_X8_rest, zm_X8_restsOn, zm_X8_runs, zm_X8_tries, zm_X8_copies, zm_X8_planGoes, zm_X8_mostOn, zm_X8_ahead, zm_X8_round, zm_X8_order, zm_X8_bitsOf, zm_X8_powerOf, zm_X8_figureOf, zm_X8_await, zm_X8_isBehind, zm_X8_hands, zm_X8_clean, zm_X8_trade, zm_X8_loose, zm_X8_mean, zm_X8_byAway, zm_X8_lowest, zm_X8_luck, zm_X8_see, zm_X8_forget, zm_X8_counts, zm_X8_fitsOf, zm_X8_isAsSeen, zm_X8_slacks, zm_X8_look, zm_X8_drift, zm_X8_keep, zm_X8_back, zm_X8_sheet, zm_X8_lay, zm_X8_read, zm_X8_torn, zm_X8_count]
def zsd : List Nat := [72, 7, 5, 6, 109, 28, 25, 21, 49, 3, 3, 3, 3, 3, 2, 2, 3, 3, 3, 3, 3, 3, 2, 10, 3, 3, 5, 3, 2, 2, 4, 2, 2, 2, 3, 9, 3, 3, 3, 3, 3, 3, 3, 3, 3, 3, 3, 3, 3, 6, 3, 4, 3, 4, 3, 3, 2, 4, 3, 3, 3, 3, 3, 3, 3, 6, 3, 3, 3, 6, 3, 3, 2, 5, 3, 4, 3, 3, 2, 3, 3, 6, 3, 6, 3, 3, 3, 4, 4, 3, 4, 3, 4, 3, 3, 4, 3, 3, 3, 2, 3, 3, 3, 3, 3, 3, 3, 3, 3, 3, 4, 3, 4, 4, 3, 3, 3, 4, 3, 3, 3, 3, 4, 3, 3, 3, 5, 98, 3, 3, 3, 3, 3, 7, 3, 3, 4, 3, 3, 3, 3, 3, 3, 3, 3, 3, 3, 3, 3, 6, 3, 4, 3, 3, 3, 3, 3, 3, 3, 3, 3, 3, 3, 3, 3, 3, 3, 4, 2, 2, 3, 4, 3, 3, 3, 3, 3, 3, 2, 4, 3, 4, 3, 3, 3, 3, 3, 3, 5, 3, 3, 3, 3, 4, 3]
def z7p : List Nat := [2, 12, 42, 52, 59, 37, 46, 18, 91, 63, 47, 74, 124, 125, 49, 50, 62, 67, 3, 43, 48, 65, 53, 64, 68, 1, 11, 17, 16, 19, 20, 38, 36, 35, 39, 40, 41, 13, 14, 15, 21, 23, 22, 4, 71, 73, 5, 83, 79, 81, 82, 85, 86, 7, 116, 118, 121, 119, 6, 102, 105, 109, 110, 111, 0, 8, 9, 10, 44, 45, 51, 54, 55, 56, 57, 58, 60, 61, 66, 69, 75, 76, 70, 77, 84, 78, 87, 88, 89, 90, 92, 93, 94, 100, 96, 95, 97, 98, 99, 101, 103, 104, 106, 107, 108, 112, 113, 114, 115, 117, 120, 122, 123, 126, 128, 127, 129, 132, 133, 135, 131, 137, 138, 136, 134, 130, 139, 146, 143, 142, 144, 163, 141, 140, 145, 147, 149, 148, 150, 152, 151, 153, 156, 158, 155, 154, 157, 161, 162, 160, 159, 164, 165, 167, 168, 169, 166, 171, 170, 172, 173, 174, 175, 178, 177, 176, 179, 180, 181, 184, 183, 182, 185, 186, 187, 188, 189, 190, 191, 192, 193, 194, 80, 24, 26, 25, 27, 29, 28, 34, 33, 31, 32, 72, 30]
set_option maxRecDepth 100000 in
theorem zsw : zpk zsd lw_tbl = zmsS.map zcwf := rfl
set_option maxRecDepth 100000 in
theorem zspm : z7p.map (fun j => zmsS[j]?) = (zms.take 195).map some := rfl
theorem zms_cw : ∀ mi ∈ zms.take 195, zCW mi := by
  intro mi h
  have h1 : some mi ∈ (zms.take 195).map some := List.mem_map_of_mem h
  rw [← zspm] at h1
  obtain ⟨j, _, hj⟩ := List.mem_map.mp h1
  have h2 : mi ∈ zmsS := List.mem_of_getElem? hj
  have h3 : zcwf mi ∈ zmsS.map zcwf := List.mem_map_of_mem h2
  rw [← zsw] at h3
  exact List.mem_filter.mpr ⟨zpk_mem _ _ _ h3, rfl⟩
