/-! the words of code -/
set_option maxRecDepth 100000 in
theorem zw_X0_init : lw_tbl[86]? = some (.code zm_X0_init.1 zm_X0_init.2.1 zm_X0_init.2.2.1 zm_X0_init.2.2.2.1) := rfl
set_option maxRecDepth 100000 in
theorem zw_X0_clear : lw_tbl[346]? = some (.code zm_X0_clear.1 zm_X0_clear.2.1 zm_X0_clear.2.2.1 zm_X0_clear.2.2.2.1) := rfl
set_option maxRecDepth 100000 in
theorem zw_X0_become : lw_tbl[474]? = some (.code zm_X0_become.1 zm_X0_become.2.1 zm_X0_become.2.2.1 zm_X0_become.2.2.2.1) := rfl
set_option maxRecDepth 100000 in
theorem zw_X0_has : lw_tbl[518]? = some (.code zm_X0_has.1 zm_X0_has.2.1 zm_X0_has.2.2.1 zm_X0_has.2.2.2.1) := rfl
set_option maxRecDepth 100000 in
theorem zw_X0_hasAll : lw_tbl[547]? = some (.code zm_X0_hasAll.1 zm_X0_hasAll.2.1 zm_X0_hasAll.2.2.1 zm_X0_hasAll.2.2.2.1) := rfl
set_option maxRecDepth 100000 in
theorem zw_X0_join : lw_tbl[454]? = some (.code zm_X0_join.1 zm_X0_join.2.1 zm_X0_join.2.2.1 zm_X0_join.2.2.2.1) := rfl
set_option maxRecDepth 100000 in
theorem zw_X0_lefts : lw_tbl[490]? = some (.code zm_X0_lefts.1 zm_X0_lefts.2.1 zm_X0_lefts.2.2.1 zm_X0_lefts.2.2.2.1) := rfl
set_option maxRecDepth 100000 in
theorem zw_X0_useHands : lw_tbl[368]? = some (.code zm_X0_useHands.1 zm_X0_useHands.2.1 zm_X0_useHands.2.2.1 zm_X0_useHands.2.2.2.1) := rfl
set_option maxRecDepth 100000 in
theorem zw_X0_swapTurned : lw_tbl[691]? = some (.code zm_X0_swapTurned.1 zm_X0_swapTurned.2.1 zm_X0_swapTurned.2.2.1 zm_X0_swapTurned.2.2.2.1) := rfl
set_option maxRecDepth 100000 in
theorem zw_X0_leastOf : lw_tbl[563]? = some (.code zm_X0_leastOf.1 zm_X0_leastOf.2.1 zm_X0_leastOf.2.2.1 zm_X0_leastOf.2.2.2.1) := rfl
set_option maxRecDepth 100000 in
theorem zw_X0_least : lw_tbl[494]? = some (.code zm_X0_least.1 zm_X0_least.2.1 zm_X0_least.2.2.1 zm_X0_least.2.2.2.1) := rfl
set_option maxRecDepth 100000 in
theorem zw_X0_greatest : lw_tbl[614]? = some (.code zm_X0_greatest.1 zm_X0_greatest.2.1 zm_X0_greatest.2.2.1 zm_X0_greatest.2.2.2.1) := rfl
set_option maxRecDepth 100000 in
theorem zw_X0_allTurned : lw_tbl[829]? = some (.code zm_X0_allTurned.1 zm_X0_allTurned.2.1 zm_X0_allTurned.2.2.1 zm_X0_allTurned.2.2.2.1) := rfl
set_option maxRecDepth 100000 in
theorem zw_X0_allMarks : lw_tbl[833]? = some (.code zm_X0_allMarks.1 zm_X0_allMarks.2.1 zm_X0_allMarks.2.2.1 zm_X0_allMarks.2.2.2.1) := rfl
set_option maxRecDepth 100000 in
theorem zw_X0_welcome : lw_tbl[505]? = some (.code zm_X0_welcome.1 zm_X0_welcome.2.1 zm_X0_welcome.2.2.1 zm_X0_welcome.2.2.2.1) := rfl
set_option maxRecDepth 100000 in
theorem zw_X0_opensTo : lw_tbl[509]? = some (.code zm_X0_opensTo.1 zm_X0_opensTo.2.1 zm_X0_opensTo.2.2.1 zm_X0_opensTo.2.2.2.1) := rfl
set_option maxRecDepth 100000 in
theorem zw_X0_attempt : lw_tbl[559]? = some (.code zm_X0_attempt.1 zm_X0_attempt.2.1 zm_X0_attempt.2.2.1 zm_X0_attempt.2.2.2.1) := rfl
set_option maxRecDepth 100000 in
theorem zw_X0_calm : lw_tbl[582]? = some (.code zm_X0_calm.1 zm_X0_calm.2.1 zm_X0_calm.2.2.1 zm_X0_calm.2.2.2.1) := rfl
set_option maxRecDepth 100000 in
theorem zw_X1_init : lw_tbl[93]? = some (.code zm_X1_init.1 zm_X1_init.2.1 zm_X1_init.2.2.1 zm_X1_init.2.2.2.1) := rfl
set_option maxRecDepth 100000 in
theorem zw_X1_become : lw_tbl[478]? = some (.code zm_X1_become.1 zm_X1_become.2.1 zm_X1_become.2.2.1 zm_X1_become.2.2.2.1) := rfl
set_option maxRecDepth 100000 in
theorem zw_X1_turned : lw_tbl[498]? = some (.code zm_X1_turned.1 zm_X1_turned.2.1 zm_X1_turned.2.2.1 zm_X1_turned.2.2.2.1) := rfl
set_option maxRecDepth 100000 in
theorem zw_X1_setTurned : lw_tbl[574]? = some (.code zm_X1_setTurned.1 zm_X1_setTurned.2.1 zm_X1_setTurned.2.2.1 zm_X1_setTurned.2.2.2.1) := rfl
set_option maxRecDepth 100000 in
theorem zw_X1_marks : lw_tbl[523]? = some (.code zm_X1_marks.1 zm_X1_marks.2.1 zm_X1_marks.2.2.1 zm_X1_marks.2.2.2.1) := rfl
set_option maxRecDepth 100000 in
theorem zw_X1_enter : lw_tbl[567]? = some (.code zm_X1_enter.1 zm_X1_enter.2.1 zm_X1_enter.2.2.1 zm_X1_enter.2.2.2.1) := rfl
set_option maxRecDepth 100000 in
theorem zw_X1_calm : lw_tbl[586]? = some (.code zm_X1_calm.1 zm_X1_calm.2.1 zm_X1_calm.2.2.1 zm_X1_calm.2.2.2.1) := rfl
set_option maxRecDepth 100000 in
theorem zw_X2_init : lw_tbl[80]? = some (.code zm_X2_init.1 zm_X2_init.2.1 zm_X2_init.2.2.1 zm_X2_init.2.2.2.1) := rfl
set_option maxRecDepth 100000 in
theorem zw_X2_readAll : lw_tbl[342]? = some (.code zm_X2_readAll.1 zm_X2_readAll.2.1 zm_X2_readAll.2.2.1 zm_X2_readAll.2.2.2.1) := rfl
set_option maxRecDepth 100000 in
theorem zw_X2_fail : lw_tbl[364]? = some (.code zm_X2_fail.1 zm_X2_fail.2.1 zm_X2_fail.2.2.1 zm_X2_fail.2.2.2.1) := rfl
set_option maxRecDepth 100000 in
theorem zw_X2_allAreThere : lw_tbl[360]? = some (.code zm_X2_allAreThere.1 zm_X2_allAreThere.2.1 zm_X2_allAreThere.2.2.1 zm_X2_allAreThere.2.2.2.1) := rfl
set_option maxRecDepth 100000 in
theorem zw_X2_readLine : lw_tbl[372]? = some (.code zm_X2_readLine.1 zm_X2_readLine.2.1 zm_X2_readLine.2.2.1 zm_X2_readLine.2.2.2.1) := rfl
set_option maxRecDepth 100000 in
theorem zw_X2_failToken : lw_tbl[376]? = some (.code zm_X2_failToken.1 zm_X2_failToken.2.1 zm_X2_failToken.2.2.1 zm_X2_failToken.2.2.2.1) := rfl
set_option maxRecDepth 100000 in
theorem zw_X2_wantsStop : lw_tbl[458]? = some (.code zm_X2_wantsStop.1 zm_X2_wantsStop.2.1 zm_X2_wantsStop.2.2.1 zm_X2_wantsStop.2.2.2.1) := rfl
set_option maxRecDepth 100000 in
theorem zw_X2_wantsNumber : lw_tbl[450]? = some (.code zm_X2_wantsNumber.1 zm_X2_wantsNumber.2.1 zm_X2_wantsNumber.2.2.1 zm_X2_wantsNumber.2.2.2.1) := rfl
set_option maxRecDepth 100000 in
theorem zw_X2_readOne : lw_tbl[446]? = some (.code zm_X2_readOne.1 zm_X2_readOne.2.1 zm_X2_readOne.2.2.1 zm_X2_readOne.2.2.2.1) := rfl
set_option maxRecDepth 100000 in
theorem zw_X2_readLeft : lw_tbl[462]? = some (.code zm_X2_readLeft.1 zm_X2_readLeft.2.1 zm_X2_readLeft.2.2.1 zm_X2_readLeft.2.2.2.1) := rfl
set_option maxRecDepth 100000 in
theorem zw_X2_readSlack : lw_tbl[466]? = some (.code zm_X2_readSlack.1 zm_X2_readSlack.2.1 zm_X2_readSlack.2.2.1 zm_X2_readSlack.2.2.2.1) := rfl
set_option maxRecDepth 100000 in
theorem zw_X2_readPlan : lw_tbl[470]? = some (.code zm_X2_readPlan.1 zm_X2_readPlan.2.1 zm_X2_readPlan.2.2.1 zm_X2_readPlan.2.2.2.1) := rfl
set_option maxRecDepth 100000 in
theorem zw_X2_next : lw_tbl[350]? = some (.code zm_X2_next.1 zm_X2_next.2.1 zm_X2_next.2.2.1 zm_X2_next.2.2.2.1) := rfl
set_option maxRecDepth 100000 in
theorem zw_X2_isLetter : lw_tbl[353]? = some (.code zm_X2_isLetter.1 zm_X2_isLetter.2.1 zm_X2_isLetter.2.2.1 zm_X2_isLetter.2.2.2.1) := rfl
set_option maxRecDepth 100000 in
theorem zw_X2_isFigure : lw_tbl[356]? = some (.code zm_X2_isFigure.1 zm_X2_isFigure.2.1 zm_X2_isFigure.2.2.1 zm_X2_isFigure.2.2.2.1) := rfl
set_option maxRecDepth 100000 in
theorem zw_X2_word : lw_tbl[380]? = some (.code zm_X2_word.1 zm_X2_word.2.1 zm_X2_word.2.2.1 zm_X2_word.2.2.2.1) := rfl
set_option maxRecDepth 100000 in
theorem zw_X2_spells : lw_tbl[394]? = some (.code zm_X2_spells.1 zm_X2_spells.2.1 zm_X2_spells.2.2.1 zm_X2_spells.2.2.2.1) := rfl
set_option maxRecDepth 100000 in
theorem zw_X2_wordText : lw_tbl[383]? = some (.code zm_X2_wordText.1 zm_X2_wordText.2.1 zm_X2_wordText.2.2.1 zm_X2_wordText.2.2.2.1) := rfl
set_option maxRecDepth 100000 in
theorem zw_X3_init : lw_tbl[203]? = some (.code zm_X3_init.1 zm_X3_init.2.1 zm_X3_init.2.2.1 zm_X3_init.2.2.2.1) := rfl
set_option maxRecDepth 100000 in
theorem zw_X3_play : lw_tbl[601]? = some (.code zm_X3_play.1 zm_X3_play.2.1 zm_X3_play.2.2.1 zm_X3_play.2.2.2.1) := rfl
set_option maxRecDepth 100000 in
theorem zw_X3_note : lw_tbl[610]? = some (.code zm_X3_note.1 zm_X3_note.2.1 zm_X3_note.2.2.1 zm_X3_note.2.2.2.1) := rfl
set_option maxRecDepth 100000 in
theorem zw_X4_init : lw_tbl[232]? = some (.code zm_X4_init.1 zm_X4_init.2.1 zm_X4_init.2.2.1 zm_X4_init.2.2.2.1) := rfl
set_option maxRecDepth 100000 in
theorem zw_X4_inRow : lw_tbl[656]? = some (.code zm_X4_inRow.1 zm_X4_inRow.2.1 zm_X4_inRow.2.2.1 zm_X4_inRow.2.2.2.1) := rfl
set_option maxRecDepth 100000 in
theorem zw_X4_bestOrder : lw_tbl[634]? = some (.code zm_X4_bestOrder.1 zm_X4_bestOrder.2.1 zm_X4_bestOrder.2.2.1 zm_X4_bestOrder.2.2.2.1) := rfl
set_option maxRecDepth 100000 in
theorem zw_X4_arrange : lw_tbl[645]? = some (.code zm_X4_arrange.1 zm_X4_arrange.2.1 zm_X4_arrange.2.2.1 zm_X4_arrange.2.2.2.1) := rfl
set_option maxRecDepth 100000 in
theorem zw_X4_takeIfBetter : lw_tbl[649]? = some (.code zm_X4_takeIfBetter.1 zm_X4_takeIfBetter.2.1 zm_X4_takeIfBetter.2.2.1 zm_X4_takeIfBetter.2.2.2.1) := rfl
set_option maxRecDepth 100000 in
theorem zw_X4_shortestWait : lw_tbl[664]? = some (.code zm_X4_shortestWait.1 zm_X4_shortestWait.2.1 zm_X4_shortestWait.2.2.1 zm_X4_shortestWait.2.2.2.1) := rfl
set_option maxRecDepth 100000 in
theorem zw_X4_makesWay : lw_tbl[668]? = some (.code zm_X4_makesWay.1 zm_X4_makesWay.2.1 zm_X4_makesWay.2.2.1 zm_X4_makesWay.2.2.2.1) := rfl
set_option maxRecDepth 100000 in
theorem zw_X5_init : lw_tbl[280]? = some (.code zm_X5_init.1 zm_X5_init.2.1 zm_X5_init.2.2.1 zm_X5_init.2.2.2.1) := rfl
set_option maxRecDepth 100000 in
theorem zw_X5_renew : lw_tbl[795]? = some (.code zm_X5_renew.1 zm_X5_renew.2.1 zm_X5_renew.2.2.1 zm_X5_renew.2.2.2.1) := rfl
set_option maxRecDepth 100000 in
theorem zw_X5_faultAt : lw_tbl[804]? = some (.code zm_X5_faultAt.1 zm_X5_faultAt.2.1 zm_X5_faultAt.2.2.1 zm_X5_faultAt.2.2.2.1) := rfl
set_option maxRecDepth 100000 in
theorem zw_X5_faultAs : lw_tbl[816]? = some (.code zm_X5_faultAs.1 zm_X5_faultAs.2.1 zm_X5_faultAs.2.2.1 zm_X5_faultAs.2.2.2.1) := rfl
set_option maxRecDepth 100000 in
theorem zw_X5_write : lw_tbl[808]? = some (.code zm_X5_write.1 zm_X5_write.2.1 zm_X5_write.2.2.1 zm_X5_write.2.2.2.1) := rfl
set_option maxRecDepth 100000 in
theorem zw_X6_init : lw_tbl[258]? = some (.code zm_X6_init.1 zm_X6_init.2.1 zm_X6_init.2.2.1 zm_X6_init.2.2.2.1) := rfl
set_option maxRecDepth 100000 in
theorem zw_X6_note : lw_tbl[736]? = some (.code zm_X6_note.1 zm_X6_note.2.1 zm_X6_note.2.2.1 zm_X6_note.2.2.2.1) := rfl
set_option maxRecDepth 100000 in
theorem zw_X6_fits : lw_tbl[748]? = some (.code zm_X6_fits.1 zm_X6_fits.2.1 zm_X6_fits.2.2.1 zm_X6_fits.2.2.2.1) := rfl
set_option maxRecDepth 100000 in
theorem zw_X6_clearTally : lw_tbl[764]? = some (.code zm_X6_clearTally.1 zm_X6_clearTally.2.1 zm_X6_clearTally.2.2.1 zm_X6_clearTally.2.2.2.1) := rfl
set_option maxRecDepth 100000 in
theorem zw_X6_addToTally : lw_tbl[769]? = some (.code zm_X6_addToTally.1 zm_X6_addToTally.2.1 zm_X6_addToTally.2.2.1 zm_X6_addToTally.2.2.2.1) := rfl
set_option maxRecDepth 100000 in
theorem zw_X6_worst : lw_tbl[773]? = some (.code zm_X6_worst.1 zm_X6_worst.2.1 zm_X6_worst.2.2.1 zm_X6_worst.2.2.2.1) := rfl
set_option maxRecDepth 100000 in
theorem zw_X7_init : lw_tbl[72]? = some (.code zm_X7_init.1 zm_X7_init.2.1 zm_X7_init.2.2.1 zm_X7_init.2.2.2.1) := rfl
set_option maxRecDepth 100000 in
theorem zw_X7_feed : lw_tbl[330]? = some (.code zm_X7_feed.1 zm_X7_feed.2.1 zm_X7_feed.2.2.1 zm_X7_feed.2.2.2.1) := rfl
set_option maxRecDepth 100000 in
theorem zw_X7_end : lw_tbl[334]? = some (.code zm_X7_end.1 zm_X7_end.2.1 zm_X7_end.2.2.1 zm_X7_end.2.2.2.1) := rfl
set_option maxRecDepth 100000 in
theorem zw_X7_text : lw_tbl[338]? = some (.code zm_X7_text.1 zm_X7_text.2.1 zm_X7_text.2.2.1 zm_X7_text.2.2.2.1) := rfl
set_option maxRecDepth 100000 in
theorem zw_X7_fault : lw_tbl[482]? = some (.code zm_X7_fault.1 zm_X7_fault.2.1 zm_X7_fault.2.2.1 zm_X7_fault.2.2.2.1) := rfl
set_option maxRecDepth 100000 in
theorem zw_X7_rule : lw_tbl[486]? = some (.code zm_X7_rule.1 zm_X7_rule.2.1 zm_X7_rule.2.2.1 zm_X7_rule.2.2.2.1) := rfl
set_option maxRecDepth 100000 in
theorem zw_X7_one : lw_tbl[514]? = some (.code zm_X7_one.1 zm_X7_one.2.1 zm_X7_one.2.2.1 zm_X7_one.2.2.2.1) := rfl
set_option maxRecDepth 100000 in
theorem zw_X7_act : lw_tbl[527]? = some (.code zm_X7_act.1 zm_X7_act.2.1 zm_X7_act.2.2.1 zm_X7_act.2.2.2.1) := rfl
set_option maxRecDepth 100000 in
theorem zw_X7_alter : lw_tbl[531]? = some (.code zm_X7_alter.1 zm_X7_alter.2.1 zm_X7_alter.2.2.1 zm_X7_alter.2.2.2.1) := rfl
set_option maxRecDepth 100000 in
theorem zw_X7_mostOf : lw_tbl[534]? = some (.code zm_X7_mostOf.1 zm_X7_mostOf.2.1 zm_X7_mostOf.2.2.1 zm_X7_mostOf.2.2.2.1) := rfl
set_option maxRecDepth 100000 in
theorem zw_X7_slack : lw_tbl[539]? = some (.code zm_X7_slack.1 zm_X7_slack.2.1 zm_X7_slack.2.2.1 zm_X7_slack.2.2.2.1) := rfl
set_option maxRecDepth 100000 in
theorem zw_X7_plan : lw_tbl[543]? = some (.code zm_X7_plan.1 zm_X7_plan.2.1 zm_X7_plan.2.2.1 zm_X7_plan.2.2.2.1) := rfl
set_option maxRecDepth 100000 in
theorem zw_X7_cut : lw_tbl[551]? = some (.code zm_X7_cut.1 zm_X7_cut.2.1 zm_X7_cut.2.2.1 zm_X7_cut.2.2.2.1) := rfl
set_option maxRecDepth 100000 in
theorem zw_X7_turn : lw_tbl[555]? = some (.code zm_X7_turn.1 zm_X7_turn.2.1 zm_X7_turn.2.2.1 zm_X7_turn.2.2.2.1) := rfl
set_option maxRecDepth 100000 in
theorem zw_X7_rest : lw_tbl[578]? = some (.code zm_X7_rest.1 zm_X7_rest.2.1 zm_X7_rest.2.2.1 zm_X7_rest.2.2.2.1) := rfl
set_option maxRecDepth 100000 in
theorem zw_X7_runs : lw_tbl[593]? = some (.code zm_X7_runs.1 zm_X7_runs.2.1 zm_X7_runs.2.2.1 zm_X7_runs.2.2.2.1) := rfl
set_option maxRecDepth 100000 in
theorem zw_X7_ahead : lw_tbl[619]? = some (.code zm_X7_ahead.1 zm_X7_ahead.2.1 zm_X7_ahead.2.2.1 zm_X7_ahead.2.2.2.1) := rfl
set_option maxRecDepth 100000 in
theorem zw_X7_round : lw_tbl[623]? = some (.code zm_X7_round.1 zm_X7_round.2.1 zm_X7_round.2.2.1 zm_X7_round.2.2.2.1) := rfl
set_option maxRecDepth 100000 in
theorem zw_X7_rehearse : lw_tbl[597]? = some (.code zm_X7_rehearse.1 zm_X7_rehearse.2.1 zm_X7_rehearse.2.2.1 zm_X7_rehearse.2.2.2.1) := rfl
set_option maxRecDepth 100000 in
theorem zw_X7_order : lw_tbl[627]? = some (.code zm_X7_order.1 zm_X7_order.2.1 zm_X7_order.2.2.1 zm_X7_order.2.2.2.1) := rfl
set_option maxRecDepth 100000 in
theorem zw_X7_await : lw_tbl[660]? = some (.code zm_X7_await.1 zm_X7_await.2.1 zm_X7_await.2.2.1 zm_X7_await.2.2.2.1) := rfl
set_option maxRecDepth 100000 in
theorem zw_X7_asksForRow : lw_tbl[630]? = some (.code zm_X7_asksForRow.1 zm_X7_asksForRow.2.1 zm_X7_asksForRow.2.2.1 zm_X7_asksForRow.2.2.2.1) := rfl
set_option maxRecDepth 100000 in
theorem zw_X7_hands : lw_tbl[673]? = some (.code zm_X7_hands.1 zm_X7_hands.2.1 zm_X7_hands.2.2.1 zm_X7_hands.2.2.2.1) := rfl
set_option maxRecDepth 100000 in
theorem zw_X7_clean : lw_tbl[678]? = some (.code zm_X7_clean.1 zm_X7_clean.2.1 zm_X7_clean.2.2.1 zm_X7_clean.2.2.2.1) := rfl
set_option maxRecDepth 100000 in
theorem zw_X7_rehearseWith : lw_tbl[682]? = some (.code zm_X7_rehearseWith.1 zm_X7_rehearseWith.2.1 zm_X7_rehearseWith.2.2.1 zm_X7_rehearseWith.2.2.2.1) := rfl
set_option maxRecDepth 100000 in
theorem zw_X7_trade : lw_tbl[687]? = some (.code zm_X7_trade.1 zm_X7_trade.2.1 zm_X7_trade.2.2.1 zm_X7_trade.2.2.2.1) := rfl
set_option maxRecDepth 100000 in
theorem zw_X7_loose : lw_tbl[696]? = some (.code zm_X7_loose.1 zm_X7_loose.2.1 zm_X7_loose.2.2.1 zm_X7_loose.2.2.2.1) := rfl
set_option maxRecDepth 100000 in
theorem zw_X7_rehearseSlack : lw_tbl[700]? = some (.code zm_X7_rehearseSlack.1 zm_X7_rehearseSlack.2.1 zm_X7_rehearseSlack.2.2.1 zm_X7_rehearseSlack.2.2.2.1) := rfl
set_option maxRecDepth 100000 in
theorem zw_X7_mean : lw_tbl[704]? = some (.code zm_X7_mean.1 zm_X7_mean.2.1 zm_X7_mean.2.2.1 zm_X7_mean.2.2.2.1) := rfl
set_option maxRecDepth 100000 in
theorem zw_X7_luck : lw_tbl[728]? = some (.code zm_X7_luck.1 zm_X7_luck.2.1 zm_X7_luck.2.2.1 zm_X7_luck.2.2.2.1) := rfl
set_option maxRecDepth 100000 in
theorem zw_X7_rehearseWithout : lw_tbl[713]? = some (.code zm_X7_rehearseWithout.1 zm_X7_rehearseWithout.2.1 zm_X7_rehearseWithout.2.2.1 zm_X7_rehearseWithout.2.2.2.1) := rfl
set_option maxRecDepth 100000 in
theorem zw_X7_odds : lw_tbl[709]? = some (.code zm_X7_odds.1 zm_X7_odds.2.1 zm_X7_odds.2.2.1 zm_X7_odds.2.2.2.1) := rfl
set_option maxRecDepth 100000 in
theorem zw_X7_allOdds : lw_tbl[717]? = some (.code zm_X7_allOdds.1 zm_X7_allOdds.2.1 zm_X7_allOdds.2.2.1 zm_X7_allOdds.2.2.2.1) := rfl
set_option maxRecDepth 100000 in
theorem zw_X7_partOfFraction : lw_tbl[721]? = some (.code zm_X7_partOfFraction.1 zm_X7_partOfFraction.2.1 zm_X7_partOfFraction.2.2.1 zm_X7_partOfFraction.2.2.2.1) := rfl
set_option maxRecDepth 100000 in
theorem zw_X7_commonDivisor : lw_tbl[724]? = some (.code zm_X7_commonDivisor.1 zm_X7_commonDivisor.2.1 zm_X7_commonDivisor.2.2.1 zm_X7_commonDivisor.2.2.2.1) := rfl
set_option maxRecDepth 100000 in
theorem zw_X7_see : lw_tbl[732]? = some (.code zm_X7_see.1 zm_X7_see.2.1 zm_X7_see.2.2.1 zm_X7_see.2.2.2.1) := rfl
set_option maxRecDepth 100000 in
theorem zw_X7_forget : lw_tbl[740]? = some (.code zm_X7_forget.1 zm_X7_forget.2.1 zm_X7_forget.2.2.1 zm_X7_forget.2.2.2.1) := rfl
set_option maxRecDepth 100000 in
theorem zw_X7_counts : lw_tbl[744]? = some (.code zm_X7_counts.1 zm_X7_counts.2.1 zm_X7_counts.2.2.1 zm_X7_counts.2.2.2.1) := rfl
set_option maxRecDepth 100000 in
theorem zw_X7_slacks : lw_tbl[752]? = some (.code zm_X7_slacks.1 zm_X7_slacks.2.1 zm_X7_slacks.2.2.1 zm_X7_slacks.2.2.2.1) := rfl
set_option maxRecDepth 100000 in
theorem zw_X7_look : lw_tbl[756]? = some (.code zm_X7_look.1 zm_X7_look.2.1 zm_X7_look.2.2.1 zm_X7_look.2.2.2.1) := rfl
set_option maxRecDepth 100000 in
theorem zw_X7_tallyGuesses : lw_tbl[760]? = some (.code zm_X7_tallyGuesses.1 zm_X7_tallyGuesses.2.1 zm_X7_tallyGuesses.2.2.1 zm_X7_tallyGuesses.2.2.2.1) := rfl
set_option maxRecDepth 100000 in
theorem zw_X7_drift : lw_tbl[778]? = some (.code zm_X7_drift.1 zm_X7_drift.2.1 zm_X7_drift.2.2.1 zm_X7_drift.2.2.2.1) := rfl
set_option maxRecDepth 100000 in
theorem zw_X7_keep : lw_tbl[783]? = some (.code zm_X7_keep.1 zm_X7_keep.2.1 zm_X7_keep.2.2.1 zm_X7_keep.2.2.2.1) := rfl
set_option maxRecDepth 100000 in
theorem zw_X7_back : lw_tbl[787]? = some (.code zm_X7_back.1 zm_X7_back.2.1 zm_X7_back.2.2.1 zm_X7_back.2.2.2.1) := rfl
set_option maxRecDepth 100000 in
theorem zw_X7_sheet : lw_tbl[791]? = some (.code zm_X7_sheet.1 zm_X7_sheet.2.1 zm_X7_sheet.2.2.1 zm_X7_sheet.2.2.2.1) := rfl
set_option maxRecDepth 100000 in
theorem zw_X7_lay : lw_tbl[800]? = some (.code zm_X7_lay.1 zm_X7_lay.2.1 zm_X7_lay.2.2.1 zm_X7_lay.2.2.2.1) := rfl
set_option maxRecDepth 100000 in
theorem zw_X7_read : lw_tbl[812]? = some (.code zm_X7_read.1 zm_X7_read.2.1 zm_X7_read.2.2.1 zm_X7_read.2.2.2.1) := rfl
set_option maxRecDepth 100000 in
theorem zw_X7_torn : lw_tbl[821]? = some (.code zm_X7_torn.1 zm_X7_torn.2.1 zm_X7_torn.2.2.1 zm_X7_torn.2.2.2.1) := rfl
set_option maxRecDepth 100000 in
theorem zw_X7_count : lw_tbl[825]? = some (.code zm_X7_count.1 zm_X7_count.2.1 zm_X7_count.2.2.1 zm_X7_count.2.2.2.1) := rfl
set_option maxRecDepth 100000 in
theorem zw_X8_init : lw_tbl[839]? = some (.code zm_X8_init.1 zm_X8_init.2.1 zm_X8_init.2.2.1 zm_X8_init.2.2.2.1) := rfl
set_option maxRecDepth 100000 in
theorem zw_X8_in : lw_tbl[942]? = some (.code zm_X8_in.1 zm_X8_in.2.1 zm_X8_in.2.2.1 zm_X8_in.2.2.2.1) := rfl
set_option maxRecDepth 100000 in
theorem zw_X8_feed : lw_tbl[938]? = some (.code zm_X8_feed.1 zm_X8_feed.2.1 zm_X8_feed.2.2.1 zm_X8_feed.2.2.2.1) := rfl
set_option maxRecDepth 100000 in
theorem zw_X8_end : lw_tbl[946]? = some (.code zm_X8_end.1 zm_X8_end.2.1 zm_X8_end.2.2.1 zm_X8_end.2.2.2.1) := rfl
set_option maxRecDepth 100000 in
theorem zw_X8_byteAt : lw_tbl[958]? = some (.code zm_X8_byteAt.1 zm_X8_byteAt.2.1 zm_X8_byteAt.2.2.1 zm_X8_byteAt.2.2.2.1) := rfl
set_option maxRecDepth 100000 in
theorem zw_X8_fails : lw_tbl[966]? = some (.code zm_X8_fails.1 zm_X8_fails.2.1 zm_X8_fails.2.2.1 zm_X8_fails.2.2.2.1) := rfl
set_option maxRecDepth 100000 in
theorem zw_X8_nameHere : lw_tbl[974]? = some (.code zm_X8_nameHere.1 zm_X8_nameHere.2.1 zm_X8_nameHere.2.2.1 zm_X8_nameHere.2.2.2.1) := rfl
set_option maxRecDepth 100000 in
theorem zw_X8_step : lw_tbl[954]? = some (.code zm_X8_step.1 zm_X8_step.2.1 zm_X8_step.2.2.1 zm_X8_step.2.2.2.1) := rfl
set_option maxRecDepth 100000 in
theorem zw_X8_other : lw_tbl[983]? = some (.code zm_X8_other.1 zm_X8_other.2.1 zm_X8_other.2.2.1 zm_X8_other.2.2.2.1) := rfl
set_option maxRecDepth 100000 in
theorem zw_X8_readPlan : lw_tbl[987]? = some (.code zm_X8_readPlan.1 zm_X8_readPlan.2.1 zm_X8_readPlan.2.2.1 zm_X8_readPlan.2.2.2.1) := rfl
set_option maxRecDepth 100000 in
theorem zw_X8_readMore : lw_tbl[979]? = some (.code zm_X8_readMore.1 zm_X8_readMore.2.1 zm_X8_readMore.2.2.1 zm_X8_readMore.2.2.2.1) := rfl
set_option maxRecDepth 100000 in
theorem zw_X8_readLine : lw_tbl[970]? = some (.code zm_X8_readLine.1 zm_X8_readLine.2.1 zm_X8_readLine.2.2.1 zm_X8_readLine.2.2.2.1) := rfl
set_option maxRecDepth 100000 in
theorem zw_X8_text : lw_tbl[950]? = some (.code zm_X8_text.1 zm_X8_text.2.1 zm_X8_text.2.2.1 zm_X8_text.2.2.2.1) := rfl
set_option maxRecDepth 100000 in
theorem zw_X8_fault : lw_tbl[991]? = some (.code zm_X8_fault.1 zm_X8_fault.2.1 zm_X8_fault.2.2.1 zm_X8_fault.2.2.2.1) := rfl
set_option maxRecDepth 100000 in
theorem zw_X8_isOne : lw_tbl[1019]? = some (.code zm_X8_isOne.1 zm_X8_isOne.2.1 zm_X8_isOne.2.2.1 zm_X8_isOne.2.2.2.1) := rfl
set_option maxRecDepth 100000 in
theorem zw_X8_countAt : lw_tbl[1007]? = some (.code zm_X8_countAt.1 zm_X8_countAt.2.1 zm_X8_countAt.2.2.1 zm_X8_countAt.2.2.2.1) := rfl
set_option maxRecDepth 100000 in
theorem zw_X8_countOf : lw_tbl[1003]? = some (.code zm_X8_countOf.1 zm_X8_countOf.2.1 zm_X8_countOf.2.2.1 zm_X8_countOf.2.2.2.1) := rfl
set_option maxRecDepth 100000 in
theorem zw_X8_leastOn : lw_tbl[1011]? = some (.code zm_X8_leastOn.1 zm_X8_leastOn.2.1 zm_X8_leastOn.2.2.1 zm_X8_leastOn.2.2.2.1) := rfl
set_option maxRecDepth 100000 in
theorem zw_X8_mostOn : lw_tbl[1091]? = some (.code zm_X8_mostOn.1 zm_X8_mostOn.2.1 zm_X8_mostOn.2.2.1 zm_X8_mostOn.2.2.2.1) := rfl
set_option maxRecDepth 100000 in
theorem zw_X8_isNear : lw_tbl[999]? = some (.code zm_X8_isNear.1 zm_X8_isNear.2.1 zm_X8_isNear.2.2.1 zm_X8_isNear.2.2.2.1) := rfl
set_option maxRecDepth 100000 in
theorem zw_X8_rule : lw_tbl[995]? = some (.code zm_X8_rule.1 zm_X8_rule.2.1 zm_X8_rule.2.2.1 zm_X8_rule.2.2.2.1) := rfl
set_option maxRecDepth 100000 in
theorem zw_X8_one : lw_tbl[1015]? = some (.code zm_X8_one.1 zm_X8_one.2.1 zm_X8_one.2.2.1 zm_X8_one.2.2.2.1) := rfl
set_option maxRecDepth 100000 in
theorem zw_X8_act : lw_tbl[1023]? = some (.code zm_X8_act.1 zm_X8_act.2.1 zm_X8_act.2.2.1 zm_X8_act.2.2.2.1) := rfl
set_option maxRecDepth 100000 in
theorem zw_X8_puts : lw_tbl[1034]? = some (.code zm_X8_puts.1 zm_X8_puts.2.1 zm_X8_puts.2.2.1 zm_X8_puts.2.2.2.1) := rfl
set_option maxRecDepth 100000 in
theorem zw_X8_alter : lw_tbl[1027]? = some (.code zm_X8_alter.1 zm_X8_alter.2.1 zm_X8_alter.2.2.1 zm_X8_alter.2.2.2.1) := rfl
set_option maxRecDepth 100000 in
theorem zw_X8_slack : lw_tbl[1038]? = some (.code zm_X8_slack.1 zm_X8_slack.2.1 zm_X8_slack.2.2.1 zm_X8_slack.2.2.2.1) := rfl
set_option maxRecDepth 100000 in
theorem zw_X8_all : lw_tbl[1047]? = some (.code zm_X8_all.1 zm_X8_all.2.1 zm_X8_all.2.2.1 zm_X8_all.2.2.2.1) := rfl
set_option maxRecDepth 100000 in
theorem zw_X8_plan : lw_tbl[1043]? = some (.code zm_X8_plan.1 zm_X8_plan.2.1 zm_X8_plan.2.2.1 zm_X8_plan.2.2.2.1) := rfl
set_option maxRecDepth 100000 in
theorem zw_X8_cut : lw_tbl[1051]? = some (.code zm_X8_cut.1 zm_X8_cut.2.1 zm_X8_cut.2.2.1 zm_X8_cut.2.2.2.1) := rfl
set_option maxRecDepth 100000 in
theorem zw_X8_triesOn : lw_tbl[1063]? = some (.code zm_X8_triesOn.1 zm_X8_triesOn.2.1 zm_X8_triesOn.2.2.1 zm_X8_triesOn.2.2.2.1) := rfl
set_option maxRecDepth 100000 in
theorem zw_X8_restsOn : lw_tbl[1071]? = some (.code zm_X8_restsOn.1 zm_X8_restsOn.2.1 zm_X8_restsOn.2.2.1 zm_X8_restsOn.2.2.2.1) := rfl
set_option maxRecDepth 100000 in
theorem zw_X8_turns : lw_tbl[1059]? = some (.code zm_X8_turns.1 zm_X8_turns.2.1 zm_X8_turns.2.2.1 zm_X8_turns.2.2.2.1) := rfl
set_option maxRecDepth 100000 in
theorem zw_X8_turn : lw_tbl[1055]? = some (.code zm_X8_turn.1 zm_X8_turn.2.1 zm_X8_turn.2.2.1 zm_X8_turn.2.2.2.1) := rfl
set_option maxRecDepth 100000 in
theorem zw_X8_rest : lw_tbl[1067]? = some (.code zm_X8_rest.1 zm_X8_rest.2.1 zm_X8_rest.2.2.1 zm_X8_rest.2.2.2.1) := rfl
set_option maxRecDepth 100000 in
theorem zw_X8_copies : lw_tbl[1083]? = some (.code zm_X8_copies.1 zm_X8_copies.2.1 zm_X8_copies.2.2.1 zm_X8_copies.2.2.2.1) := rfl
set_option maxRecDepth 100000 in
theorem zw_X8_planGoes : lw_tbl[1087]? = some (.code zm_X8_planGoes.1 zm_X8_planGoes.2.1 zm_X8_planGoes.2.2.1 zm_X8_planGoes.2.2.2.1) := rfl
set_option maxRecDepth 100000 in
theorem zw_X8_tries : lw_tbl[1079]? = some (.code zm_X8_tries.1 zm_X8_tries.2.1 zm_X8_tries.2.2.1 zm_X8_tries.2.2.2.1) := rfl
set_option maxRecDepth 100000 in
theorem zw_X8_runs : lw_tbl[1075]? = some (.code zm_X8_runs.1 zm_X8_runs.2.1 zm_X8_runs.2.2.1 zm_X8_runs.2.2.2.1) := rfl
set_option maxRecDepth 100000 in
theorem zw_X8_ahead : lw_tbl[1095]? = some (.code zm_X8_ahead.1 zm_X8_ahead.2.1 zm_X8_ahead.2.2.1 zm_X8_ahead.2.2.2.1) := rfl
set_option maxRecDepth 100000 in
theorem zw_X8_round : lw_tbl[1099]? = some (.code zm_X8_round.1 zm_X8_round.2.1 zm_X8_round.2.2.1 zm_X8_round.2.2.2.1) := rfl
set_option maxRecDepth 100000 in
theorem zw_X8_bitsOf : lw_tbl[1108]? = some (.code zm_X8_bitsOf.1 zm_X8_bitsOf.2.1 zm_X8_bitsOf.2.2.1 zm_X8_bitsOf.2.2.2.1) := rfl
set_option maxRecDepth 100000 in
theorem zw_X8_powerOf : lw_tbl[1111]? = some (.code zm_X8_powerOf.1 zm_X8_powerOf.2.1 zm_X8_powerOf.2.2.1 zm_X8_powerOf.2.2.2.1) := rfl
set_option maxRecDepth 100000 in
theorem zw_X8_figureOf : lw_tbl[1114]? = some (.code zm_X8_figureOf.1 zm_X8_figureOf.2.1 zm_X8_figureOf.2.2.1 zm_X8_figureOf.2.2.2.1) := rfl
set_option maxRecDepth 100000 in
theorem zw_X8_order : lw_tbl[1103]? = some (.code zm_X8_order.1 zm_X8_order.2.1 zm_X8_order.2.2.1 zm_X8_order.2.2.2.1) := rfl
set_option maxRecDepth 100000 in
theorem zw_X8_isBehind : lw_tbl[1123]? = some (.code zm_X8_isBehind.1 zm_X8_isBehind.2.1 zm_X8_isBehind.2.2.1 zm_X8_isBehind.2.2.2.1) := rfl
set_option maxRecDepth 100000 in
theorem zw_X8_await : lw_tbl[1118]? = some (.code zm_X8_await.1 zm_X8_await.2.1 zm_X8_await.2.2.1 zm_X8_await.2.2.2.1) := rfl
set_option maxRecDepth 100000 in
theorem zw_X8_hands : lw_tbl[1127]? = some (.code zm_X8_hands.1 zm_X8_hands.2.1 zm_X8_hands.2.2.1 zm_X8_hands.2.2.2.1) := rfl
set_option maxRecDepth 100000 in
theorem zw_X8_clean : lw_tbl[1131]? = some (.code zm_X8_clean.1 zm_X8_clean.2.1 zm_X8_clean.2.2.1 zm_X8_clean.2.2.2.1) := rfl
set_option maxRecDepth 100000 in
theorem zw_X8_trade : lw_tbl[1135]? = some (.code zm_X8_trade.1 zm_X8_trade.2.1 zm_X8_trade.2.2.1 zm_X8_trade.2.2.2.1) := rfl
set_option maxRecDepth 100000 in
theorem zw_X8_loose : lw_tbl[1139]? = some (.code zm_X8_loose.1 zm_X8_loose.2.1 zm_X8_loose.2.2.1 zm_X8_loose.2.2.2.1) := rfl
set_option maxRecDepth 100000 in
theorem zw_X8_lowest : lw_tbl[1150]? = some (.code zm_X8_lowest.1 zm_X8_lowest.2.1 zm_X8_lowest.2.2.1 zm_X8_lowest.2.2.2.1) := rfl
set_option maxRecDepth 100000 in
theorem zw_X8_byAway : lw_tbl[1147]? = some (.code zm_X8_byAway.1 zm_X8_byAway.2.1 zm_X8_byAway.2.2.1 zm_X8_byAway.2.2.2.1) := rfl
set_option maxRecDepth 100000 in
theorem zw_X8_mean : lw_tbl[1143]? = some (.code zm_X8_mean.1 zm_X8_mean.2.1 zm_X8_mean.2.2.1 zm_X8_mean.2.2.2.1) := rfl
set_option maxRecDepth 100000 in
theorem zw_X8_luck : lw_tbl[1155]? = some (.code zm_X8_luck.1 zm_X8_luck.2.1 zm_X8_luck.2.2.1 zm_X8_luck.2.2.2.1) := rfl
set_option maxRecDepth 100000 in
theorem zw_X8_see : lw_tbl[1159]? = some (.code zm_X8_see.1 zm_X8_see.2.1 zm_X8_see.2.2.1 zm_X8_see.2.2.2.1) := rfl
set_option maxRecDepth 100000 in
theorem zw_X8_forget : lw_tbl[1164]? = some (.code zm_X8_forget.1 zm_X8_forget.2.1 zm_X8_forget.2.2.1 zm_X8_forget.2.2.2.1) := rfl
set_option maxRecDepth 100000 in
theorem zw_X8_isAsSeen : lw_tbl[1176]? = some (.code zm_X8_isAsSeen.1 zm_X8_isAsSeen.2.1 zm_X8_isAsSeen.2.2.1 zm_X8_isAsSeen.2.2.2.1) := rfl
set_option maxRecDepth 100000 in
theorem zw_X8_fitsOf : lw_tbl[1172]? = some (.code zm_X8_fitsOf.1 zm_X8_fitsOf.2.1 zm_X8_fitsOf.2.2.1 zm_X8_fitsOf.2.2.2.1) := rfl
set_option maxRecDepth 100000 in
theorem zw_X8_counts : lw_tbl[1168]? = some (.code zm_X8_counts.1 zm_X8_counts.2.1 zm_X8_counts.2.2.1 zm_X8_counts.2.2.2.1) := rfl
set_option maxRecDepth 100000 in
theorem zw_X8_slacks : lw_tbl[1180]? = some (.code zm_X8_slacks.1 zm_X8_slacks.2.1 zm_X8_slacks.2.2.1 zm_X8_slacks.2.2.2.1) := rfl
set_option maxRecDepth 100000 in
theorem zw_X8_look : lw_tbl[1184]? = some (.code zm_X8_look.1 zm_X8_look.2.1 zm_X8_look.2.2.1 zm_X8_look.2.2.2.1) := rfl
set_option maxRecDepth 100000 in
theorem zw_X8_drift : lw_tbl[1188]? = some (.code zm_X8_drift.1 zm_X8_drift.2.1 zm_X8_drift.2.2.1 zm_X8_drift.2.2.2.1) := rfl
set_option maxRecDepth 100000 in
theorem zw_X8_keep : lw_tbl[1194]? = some (.code zm_X8_keep.1 zm_X8_keep.2.1 zm_X8_keep.2.2.1 zm_X8_keep.2.2.2.1) := rfl
set_option maxRecDepth 100000 in
theorem zw_X8_back : lw_tbl[1198]? = some (.code zm_X8_back.1 zm_X8_back.2.1 zm_X8_back.2.2.1 zm_X8_back.2.2.2.1) := rfl
set_option maxRecDepth 100000 in
theorem zw_X8_sheet : lw_tbl[1202]? = some (.code zm_X8_sheet.1 zm_X8_sheet.2.1 zm_X8_sheet.2.2.1 zm_X8_sheet.2.2.2.1) := rfl
set_option maxRecDepth 100000 in
theorem zw_X8_lay : lw_tbl[1206]? = some (.code zm_X8_lay.1 zm_X8_lay.2.1 zm_X8_lay.2.2.1 zm_X8_lay.2.2.2.1) := rfl
set_option maxRecDepth 100000 in
theorem zw_X8_read : lw_tbl[1210]? = some (.code zm_X8_read.1 zm_X8_read.2.1 zm_X8_read.2.2.1 zm_X8_read.2.2.2.1) := rfl
set_option maxRecDepth 100000 in
theorem zw_X8_torn : lw_tbl[1215]? = some (.code zm_X8_torn.1 zm_X8_torn.2.1 zm_X8_torn.2.2.1 zm_X8_torn.2.2.2.1) := rfl
set_option maxRecDepth 100000 in
theorem zw_X8_count : lw_tbl[1219]? = some (.code zm_X8_count.1 zm_X8_count.2.1 zm_X8_count.2.2.1 zm_X8_count.2.2.2.1) := rfl
set_option maxRecDepth 100000 in
theorem zw_J6_bitCount_0f7a4 : lw_tbl[638]? = some (.code zm_J6_bitCount_0f7a4.1 zm_J6_bitCount_0f7a4.2.1 zm_J6_bitCount_0f7a4.2.2.1 zm_J6_bitCount_0f7a4.2.2.2.1) := rfl
set_option maxRecDepth 100000 in
theorem zw_J0_length_8abf5 : lw_tbl[398]? = some (.code zm_J0_length_8abf5.1 zm_J0_length_8abf5.2.1 zm_J0_length_8abf5.2.2.1 zm_J0_length_8abf5.2.2.2.1) := rfl
set_option maxRecDepth 100000 in
theorem zw_J0_charAt_5068e : lw_tbl[408]? = some (.code zm_J0_charAt_5068e.1 zm_J0_charAt_5068e.2.1 zm_J0_charAt_5068e.2.2.1 zm_J0_charAt_5068e.2.2.2.1) := rfl
set_option maxRecDepth 100000 in
theorem zw_J0_coder_7d493 : lw_tbl[402]? = some (.code zm_J0_coder_7d493.1 zm_J0_coder_7d493.2.1 zm_J0_coder_7d493.2.2.1 zm_J0_coder_7d493.2.2.2.1) := rfl
set_option maxRecDepth 100000 in
theorem zw_J0_isLatin1_aae02 : lw_tbl[412]? = some (.code zm_J0_isLatin1_aae02.1 zm_J0_isLatin1_aae02.2.1 zm_J0_isLatin1_aae02.2.2.1 zm_J0_isLatin1_aae02.2.2.2.1) := rfl
set_option maxRecDepth 100000 in
theorem zw_J0_checkIndex_df160 : lw_tbl[418]? = some (.code zm_J0_checkIndex_df160.1 zm_J0_checkIndex_df160.2.1 zm_J0_checkIndex_df160.2.2.1 zm_J0_checkIndex_df160.2.2.2.1) := rfl
set_option maxRecDepth 100000 in
theorem zw_J1_charAt_3b067 : lw_tbl[415]? = some (.code zm_J1_charAt_3b067.1 zm_J1_charAt_3b067.2.1 zm_J1_charAt_3b067.2.2.1 zm_J1_charAt_3b067.2.2.2.1) := rfl
set_option maxRecDepth 100000 in
theorem zw_J2_getChar_3b067 : lw_tbl[436]? = some (.code zm_J2_getChar_3b067.1 zm_J2_getChar_3b067.2.1 zm_J2_getChar_3b067.2.2.1 zm_J2_getChar_3b067.2.2.2.1) := rfl
set_option maxRecDepth 100000 in
theorem zw_J2_length_9d52b : lw_tbl[432]? = some (.code zm_J2_length_9d52b.1 zm_J2_length_9d52b.2.1 zm_J2_length_9d52b.2.2.1 zm_J2_length_9d52b.2.2.2.1) := rfl
set_option maxRecDepth 100000 in
theorem zw_J2_charAt_3b067 : lw_tbl[426]? = some (.code zm_J2_charAt_3b067.1 zm_J2_charAt_3b067.2.1 zm_J2_charAt_3b067.2.2.1 zm_J2_charAt_3b067.2.2.2.1) := rfl
set_option maxRecDepth 100000 in
theorem zw_J2_checkIndex_2214a : lw_tbl[429]? = some (.code zm_J2_checkIndex_2214a.1 zm_J2_checkIndex_2214a.2.1 zm_J2_checkIndex_2214a.2.2.1 zm_J2_checkIndex_2214a.2.2.2.1) := rfl
set_option maxRecDepth 100000 in
theorem zw_J7_fill_53178 : lw_tbl[604]? = some (.code zm_J7_fill_53178.1 zm_J7_fill_53178.2.1 zm_J7_fill_53178.2.2.1 zm_J7_fill_53178.2.2.2.1) := rfl
set_option maxRecDepth 100000 in
theorem zw_J3_checkIndex_8e157 : lw_tbl[423]? = some (.code zm_J3_checkIndex_8e157.1 zm_J3_checkIndex_8e157.2.1 zm_J3_checkIndex_8e157.2.2.1 zm_J3_checkIndex_8e157.2.2.2.1) := rfl
def zCW (mi : zMi) : Prop := Cond.code mi.1 mi.2.1 mi.2.2.1 mi.2.2.2.1 ∈ zgd
theorem zcw_of {i : Nat} {mi : zMi} (h : lw_tbl[i]? = some (.code mi.1 mi.2.1 mi.2.2.1 mi.2.2.2.1)) : zCW mi := List.mem_filter.mpr ⟨List.mem_of_getElem? h, rfl⟩
theorem zcc_0 : ∀ mi ∈ ([zm_X0_init, zm_X0_clear, zm_X0_become, zm_X0_has, zm_X0_hasAll, zm_X0_join, zm_X0_lefts, zm_X0_useHands, zm_X0_swapTurned, zm_X0_leastOf, zm_X0_least, zm_X0_greatest, zm_X0_allTurned, zm_X0_allMarks, zm_X0_welcome, zm_X0_opensTo, zm_X0_attempt, zm_X0_calm, zm_X1_init, zm_X1_become] : List zMi), zCW mi := List.forall_mem_cons.mpr ⟨zcw_of zw_X0_init, List.forall_mem_cons.mpr ⟨zcw_of zw_X0_clear, List.forall_mem_cons.mpr ⟨zcw_of zw_X0_become, List.forall_mem_cons.mpr ⟨zcw_of zw_X0_has, List.forall_mem_cons.mpr ⟨zcw_of zw_X0_hasAll, List.forall_mem_cons.mpr ⟨zcw_of zw_X0_join, List.forall_mem_cons.mpr ⟨zcw_of zw_X0_lefts, List.forall_mem_cons.mpr ⟨zcw_of zw_X0_useHands, List.forall_mem_cons.mpr ⟨zcw_of zw_X0_swapTurned, List.forall_mem_cons.mpr ⟨zcw_of zw_X0_leastOf, List.forall_mem_cons.mpr ⟨zcw_of zw_X0_least, List.forall_mem_cons.mpr ⟨zcw_of zw_X0_greatest, List.forall_mem_cons.mpr ⟨zcw_of zw_X0_allTurned, List.forall_mem_cons.mpr ⟨zcw_of zw_X0_allMarks, List.forall_mem_cons.mpr ⟨zcw_of zw_X0_welcome, List.forall_mem_cons.mpr ⟨zcw_of zw_X0_opensTo, List.forall_mem_cons.mpr ⟨zcw_of zw_X0_attempt, List.forall_mem_cons.mpr ⟨zcw_of zw_X0_calm, List.forall_mem_cons.mpr ⟨zcw_of zw_X1_init, List.forall_mem_cons.mpr ⟨zcw_of zw_X1_become, fun _ h => absurd h List.not_mem_nil⟩⟩⟩⟩⟩⟩⟩⟩⟩⟩⟩⟩⟩⟩⟩⟩⟩⟩⟩⟩
theorem zcc_1 : ∀ mi ∈ ([zm_X1_turned, zm_X1_setTurned, zm_X1_marks, zm_X1_enter, zm_X1_calm, zm_X2_init, zm_X2_readAll, zm_X2_fail, zm_X2_allAreThere, zm_X2_readLine, zm_X2_failToken, zm_X2_wantsStop, zm_X2_wantsNumber, zm_X2_readOne, zm_X2_readLeft, zm_X2_readSlack, zm_X2_readPlan, zm_X2_next, zm_X2_isLetter, zm_X2_isFigure] : List zMi), zCW mi := List.forall_mem_cons.mpr ⟨zcw_of zw_X1_turned, List.forall_mem_cons.mpr ⟨zcw_of zw_X1_setTurned, List.forall_mem_cons.mpr ⟨zcw_of zw_X1_marks, List.forall_mem_cons.mpr ⟨zcw_of zw_X1_enter, List.forall_mem_cons.mpr ⟨zcw_of zw_X1_calm, List.forall_mem_cons.mpr ⟨zcw_of zw_X2_init, List.forall_mem_cons.mpr ⟨zcw_of zw_X2_readAll, List.forall_mem_cons.mpr ⟨zcw_of zw_X2_fail, List.forall_mem_cons.mpr ⟨zcw_of zw_X2_allAreThere, List.forall_mem_cons.mpr ⟨zcw_of zw_X2_readLine, List.forall_mem_cons.mpr ⟨zcw_of zw_X2_failToken, List.forall_mem_cons.mpr ⟨zcw_of zw_X2_wantsStop, List.forall_mem_cons.mpr ⟨zcw_of zw_X2_wantsNumber, List.forall_mem_cons.mpr ⟨zcw_of zw_X2_readOne, List.forall_mem_cons.mpr ⟨zcw_of zw_X2_readLeft, List.forall_mem_cons.mpr ⟨zcw_of zw_X2_readSlack, List.forall_mem_cons.mpr ⟨zcw_of zw_X2_readPlan, List.forall_mem_cons.mpr ⟨zcw_of zw_X2_next, List.forall_mem_cons.mpr ⟨zcw_of zw_X2_isLetter, List.forall_mem_cons.mpr ⟨zcw_of zw_X2_isFigure, fun _ h => absurd h List.not_mem_nil⟩⟩⟩⟩⟩⟩⟩⟩⟩⟩⟩⟩⟩⟩⟩⟩⟩⟩⟩⟩
theorem zcc_2 : ∀ mi ∈ ([zm_X2_word, zm_X2_spells, zm_X2_wordText, zm_X3_init, zm_X3_play, zm_X3_note, zm_X4_init, zm_X4_inRow, zm_X4_bestOrder, zm_X4_arrange, zm_X4_takeIfBetter, zm_X4_shortestWait, zm_X4_makesWay, zm_X5_init, zm_X5_renew, zm_X5_faultAt, zm_X5_faultAs, zm_X5_write, zm_X6_init, zm_X6_note] : List zMi), zCW mi := List.forall_mem_cons.mpr ⟨zcw_of zw_X2_word, List.forall_mem_cons.mpr ⟨zcw_of zw_X2_spells, List.forall_mem_cons.mpr ⟨zcw_of zw_X2_wordText, List.forall_mem_cons.mpr ⟨zcw_of zw_X3_init, List.forall_mem_cons.mpr ⟨zcw_of zw_X3_play, List.forall_mem_cons.mpr ⟨zcw_of zw_X3_note, List.forall_mem_cons.mpr ⟨zcw_of zw_X4_init, List.forall_mem_cons.mpr ⟨zcw_of zw_X4_inRow, List.forall_mem_cons.mpr ⟨zcw_of zw_X4_bestOrder, List.forall_mem_cons.mpr ⟨zcw_of zw_X4_arrange, List.forall_mem_cons.mpr ⟨zcw_of zw_X4_takeIfBetter, List.forall_mem_cons.mpr ⟨zcw_of zw_X4_shortestWait, List.forall_mem_cons.mpr ⟨zcw_of zw_X4_makesWay, List.forall_mem_cons.mpr ⟨zcw_of zw_X5_init, List.forall_mem_cons.mpr ⟨zcw_of zw_X5_renew, List.forall_mem_cons.mpr ⟨zcw_of zw_X5_faultAt, List.forall_mem_cons.mpr ⟨zcw_of zw_X5_faultAs, List.forall_mem_cons.mpr ⟨zcw_of zw_X5_write, List.forall_mem_cons.mpr ⟨zcw_of zw_X6_init, List.forall_mem_cons.mpr ⟨zcw_of zw_X6_note, fun _ h => absurd h List.not_mem_nil⟩⟩⟩⟩⟩⟩⟩⟩⟩⟩⟩⟩⟩⟩⟩⟩⟩⟩⟩⟩
theorem zcc_3 : ∀ mi ∈ ([zm_X6_fits, zm_X6_clearTally, zm_X6_addToTally, zm_X6_worst, zm_X7_init, zm_X7_feed, zm_X7_end, zm_X7_text, zm_X7_fault, zm_X7_rule, zm_X7_one, zm_X7_act, zm_X7_alter, zm_X7_mostOf, zm_X7_slack, zm_X7_plan, zm_X7_cut, zm_X7_turn, zm_X7_rest, zm_X7_runs] : List zMi), zCW mi := List.forall_mem_cons.mpr ⟨zcw_of zw_X6_fits, List.forall_mem_cons.mpr ⟨zcw_of zw_X6_clearTally, List.forall_mem_cons.mpr ⟨zcw_of zw_X6_addToTally, List.forall_mem_cons.mpr ⟨zcw_of zw_X6_worst, List.forall_mem_cons.mpr ⟨zcw_of zw_X7_init, List.forall_mem_cons.mpr ⟨zcw_of zw_X7_feed, List.forall_mem_cons.mpr ⟨zcw_of zw_X7_end, List.forall_mem_cons.mpr ⟨zcw_of zw_X7_text, List.forall_mem_cons.mpr ⟨zcw_of zw_X7_fault, List.forall_mem_cons.mpr ⟨zcw_of zw_X7_rule, List.forall_mem_cons.mpr ⟨zcw_of zw_X7_one, List.forall_mem_cons.mpr ⟨zcw_of zw_X7_act, List.forall_mem_cons.mpr ⟨zcw_of zw_X7_alter, List.forall_mem_cons.mpr ⟨zcw_of zw_X7_mostOf, List.forall_mem_cons.mpr ⟨zcw_of zw_X7_slack, List.forall_mem_cons.mpr ⟨zcw_of zw_X7_plan, List.forall_mem_cons.mpr ⟨zcw_of zw_X7_cut, List.forall_mem_cons.mpr ⟨zcw_of zw_X7_turn, List.forall_mem_cons.mpr ⟨zcw_of zw_X7_rest, List.forall_mem_cons.mpr ⟨zcw_of zw_X7_runs, fun _ h => absurd h List.not_mem_nil⟩⟩⟩⟩⟩⟩⟩⟩⟩⟩⟩⟩⟩⟩⟩⟩⟩⟩⟩⟩
theorem zcc_4 : ∀ mi ∈ ([zm_X7_ahead, zm_X7_round, zm_X7_rehearse, zm_X7_order, zm_X7_await, zm_X7_asksForRow, zm_X7_hands, zm_X7_clean, zm_X7_rehearseWith, zm_X7_trade, zm_X7_loose, zm_X7_rehearseSlack, zm_X7_mean, zm_X7_luck, zm_X7_rehearseWithout, zm_X7_odds, zm_X7_allOdds, zm_X7_partOfFraction, zm_X7_commonDivisor, zm_X7_see] : List zMi), zCW mi := List.forall_mem_cons.mpr ⟨zcw_of zw_X7_ahead, List.forall_mem_cons.mpr ⟨zcw_of zw_X7_round, List.forall_mem_cons.mpr ⟨zcw_of zw_X7_rehearse, List.forall_mem_cons.mpr ⟨zcw_of zw_X7_order, List.forall_mem_cons.mpr ⟨zcw_of zw_X7_await, List.forall_mem_cons.mpr ⟨zcw_of zw_X7_asksForRow, List.forall_mem_cons.mpr ⟨zcw_of zw_X7_hands, List.forall_mem_cons.mpr ⟨zcw_of zw_X7_clean, List.forall_mem_cons.mpr ⟨zcw_of zw_X7_rehearseWith, List.forall_mem_cons.mpr ⟨zcw_of zw_X7_trade, List.forall_mem_cons.mpr ⟨zcw_of zw_X7_loose, List.forall_mem_cons.mpr ⟨zcw_of zw_X7_rehearseSlack, List.forall_mem_cons.mpr ⟨zcw_of zw_X7_mean, List.forall_mem_cons.mpr ⟨zcw_of zw_X7_luck, List.forall_mem_cons.mpr ⟨zcw_of zw_X7_rehearseWithout, List.forall_mem_cons.mpr ⟨zcw_of zw_X7_odds, List.forall_mem_cons.mpr ⟨zcw_of zw_X7_allOdds, List.forall_mem_cons.mpr ⟨zcw_of zw_X7_partOfFraction, List.forall_mem_cons.mpr ⟨zcw_of zw_X7_commonDivisor, List.forall_mem_cons.mpr ⟨zcw_of zw_X7_see, fun _ h => absurd h List.not_mem_nil⟩⟩⟩⟩⟩⟩⟩⟩⟩⟩⟩⟩⟩⟩⟩⟩⟩⟩⟩⟩
theorem zcc_5 : ∀ mi ∈ ([zm_X7_forget, zm_X7_counts, zm_X7_slacks, zm_X7_look, zm_X7_tallyGuesses, zm_X7_drift, zm_X7_keep, zm_X7_back, zm_X7_sheet, zm_X7_lay, zm_X7_read, zm_X7_torn, zm_X7_count, zm_X8_init, zm_X8_in, zm_X8_feed, zm_X8_end, zm_X8_byteAt, zm_X8_fails, zm_X8_nameHere] : List zMi), zCW mi := List.forall_mem_cons.mpr ⟨zcw_of zw_X7_forget, List.forall_mem_cons.mpr ⟨zcw_of zw_X7_counts, List.forall_mem_cons.mpr ⟨zcw_of zw_X7_slacks, List.forall_mem_cons.mpr ⟨zcw_of zw_X7_look, List.forall_mem_cons.mpr ⟨zcw_of zw_X7_tallyGuesses, List.forall_mem_cons.mpr ⟨zcw_of zw_X7_drift, List.forall_mem_cons.mpr ⟨zcw_of zw_X7_keep, List.forall_mem_cons.mpr ⟨zcw_of zw_X7_back, List.forall_mem_cons.mpr ⟨zcw_of zw_X7_sheet, List.forall_mem_cons.mpr ⟨zcw_of zw_X7_lay, List.forall_mem_cons.mpr ⟨zcw_of zw_X7_read, List.forall_mem_cons.mpr ⟨zcw_of zw_X7_torn, List.forall_mem_cons.mpr ⟨zcw_of zw_X7_count, List.forall_mem_cons.mpr ⟨zcw_of zw_X8_init, List.forall_mem_cons.mpr ⟨zcw_of zw_X8_in, List.forall_mem_cons.mpr ⟨zcw_of zw_X8_feed, List.forall_mem_cons.mpr ⟨zcw_of zw_X8_end, List.forall_mem_cons.mpr ⟨zcw_of zw_X8_byteAt, List.forall_mem_cons.mpr ⟨zcw_of zw_X8_fails, List.forall_mem_cons.mpr ⟨zcw_of zw_X8_nameHere, fun _ h => absurd h List.not_mem_nil⟩⟩⟩⟩⟩⟩⟩⟩⟩⟩⟩⟩⟩⟩⟩⟩⟩⟩⟩⟩
theorem zcc_6 : ∀ mi ∈ ([zm_X8_step, zm_X8_other, zm_X8_readPlan, zm_X8_readMore, zm_X8_readLine, zm_X8_text, zm_X8_fault, zm_X8_isOne, zm_X8_countAt, zm_X8_countOf, zm_X8_leastOn, zm_X8_mostOn, zm_X8_isNear, zm_X8_rule, zm_X8_one, zm_X8_act, zm_X8_puts, zm_X8_alter, zm_X8_slack, zm_X8_all] : List zMi), zCW mi := List.forall_mem_cons.mpr ⟨zcw_of zw_X8_step, List.forall_mem_cons.mpr ⟨zcw_of zw_X8_other, List.forall_mem_cons.mpr ⟨zcw_of zw_X8_readPlan, List.forall_mem_cons.mpr ⟨zcw_of zw_X8_readMore, List.forall_mem_cons.mpr ⟨zcw_of zw_X8_readLine, List.forall_mem_cons.mpr ⟨zcw_of zw_X8_text, List.forall_mem_cons.mpr ⟨zcw_of zw_X8_fault, List.forall_mem_cons.mpr ⟨zcw_of zw_X8_isOne, List.forall_mem_cons.mpr ⟨zcw_of zw_X8_countAt, List.forall_mem_cons.mpr ⟨zcw_of zw_X8_countOf, List.forall_mem_cons.mpr ⟨zcw_of zw_X8_leastOn, List.forall_mem_cons.mpr ⟨zcw_of zw_X8_mostOn, List.forall_mem_cons.mpr ⟨zcw_of zw_X8_isNear, List.forall_mem_cons.mpr ⟨zcw_of zw_X8_rule, List.forall_mem_cons.mpr ⟨zcw_of zw_X8_one, List.forall_mem_cons.mpr ⟨zcw_of zw_X8_act, List.forall_mem_cons.mpr ⟨zcw_of zw_X8_puts, List.forall_mem_cons.mpr ⟨zcw_of zw_X8_alter, List.forall_mem_cons.mpr ⟨zcw_of zw_X8_slack, List.forall_mem_cons.mpr ⟨zcw_of zw_X8_all, fun _ h => absurd h List.not_mem_nil⟩⟩⟩⟩⟩⟩⟩⟩⟩⟩⟩⟩⟩⟩⟩⟩⟩⟩⟩⟩
theorem zcc_7 : ∀ mi ∈ ([zm_X8_plan, zm_X8_cut, zm_X8_triesOn, zm_X8_restsOn, zm_X8_turns, zm_X8_turn, zm_X8_rest, zm_X8_copies, zm_X8_planGoes, zm_X8_tries, zm_X8_runs, zm_X8_ahead, zm_X8_round, zm_X8_bitsOf, zm_X8_powerOf, zm_X8_figureOf, zm_X8_order, zm_X8_isBehind, zm_X8_await, zm_X8_hands] : List zMi), zCW mi := List.forall_mem_cons.mpr ⟨zcw_of zw_X8_plan, List.forall_mem_cons.mpr ⟨zcw_of zw_X8_cut, List.forall_mem_cons.mpr ⟨zcw_of zw_X8_triesOn, List.forall_mem_cons.mpr ⟨zcw_of zw_X8_restsOn, List.forall_mem_cons.mpr ⟨zcw_of zw_X8_turns, List.forall_mem_cons.mpr ⟨zcw_of zw_X8_turn, List.forall_mem_cons.mpr ⟨zcw_of zw_X8_rest, List.forall_mem_cons.mpr ⟨zcw_of zw_X8_copies, List.forall_mem_cons.mpr ⟨zcw_of zw_X8_planGoes, List.forall_mem_cons.mpr ⟨zcw_of zw_X8_tries, List.forall_mem_cons.mpr ⟨zcw_of zw_X8_runs, List.forall_mem_cons.mpr ⟨zcw_of zw_X8_ahead, List.forall_mem_cons.mpr ⟨zcw_of zw_X8_round, List.forall_mem_cons.mpr ⟨zcw_of zw_X8_bitsOf, List.forall_mem_cons.mpr ⟨zcw_of zw_X8_powerOf, List.forall_mem_cons.mpr ⟨zcw_of zw_X8_figureOf, List.forall_mem_cons.mpr ⟨zcw_of zw_X8_order, List.forall_mem_cons.mpr ⟨zcw_of zw_X8_isBehind, List.forall_mem_cons.mpr ⟨zcw_of zw_X8_await, List.forall_mem_cons.mpr ⟨zcw_of zw_X8_hands, fun _ h => absurd h List.not_mem_nil⟩⟩⟩⟩⟩⟩⟩⟩⟩⟩⟩⟩⟩⟩⟩⟩⟩⟩⟩⟩
theorem zcc_8 : ∀ mi ∈ ([zm_X8_clean, zm_X8_trade, zm_X8_loose, zm_X8_lowest, zm_X8_byAway, zm_X8_mean, zm_X8_luck, zm_X8_see, zm_X8_forget, zm_X8_isAsSeen, zm_X8_fitsOf, zm_X8_counts, zm_X8_slacks, zm_X8_look, zm_X8_drift, zm_X8_keep, zm_X8_back, zm_X8_sheet, zm_X8_lay, zm_X8_read] : List zMi), zCW mi := List.forall_mem_cons.mpr ⟨zcw_of zw_X8_clean, List.forall_mem_cons.mpr ⟨zcw_of zw_X8_trade, List.forall_mem_cons.mpr ⟨zcw_of zw_X8_loose, List.forall_mem_cons.mpr ⟨zcw_of zw_X8_lowest, List.forall_mem_cons.mpr ⟨zcw_of zw_X8_byAway, List.forall_mem_cons.mpr ⟨zcw_of zw_X8_mean, List.forall_mem_cons.mpr ⟨zcw_of zw_X8_luck, List.forall_mem_cons.mpr ⟨zcw_of zw_X8_see, List.forall_mem_cons.mpr ⟨zcw_of zw_X8_forget, List.forall_mem_cons.mpr ⟨zcw_of zw_X8_isAsSeen, List.forall_mem_cons.mpr ⟨zcw_of zw_X8_fitsOf, List.forall_mem_cons.mpr ⟨zcw_of zw_X8_counts, List.forall_mem_cons.mpr ⟨zcw_of zw_X8_slacks, List.forall_mem_cons.mpr ⟨zcw_of zw_X8_look, List.forall_mem_cons.mpr ⟨zcw_of zw_X8_drift, List.forall_mem_cons.mpr ⟨zcw_of zw_X8_keep, List.forall_mem_cons.mpr ⟨zcw_of zw_X8_back, List.forall_mem_cons.mpr ⟨zcw_of zw_X8_sheet, List.forall_mem_cons.mpr ⟨zcw_of zw_X8_lay, List.forall_mem_cons.mpr ⟨zcw_of zw_X8_read, fun _ h => absurd h List.not_mem_nil⟩⟩⟩⟩⟩⟩⟩⟩⟩⟩⟩⟩⟩⟩⟩⟩⟩⟩⟩⟩
theorem zcc_9 : ∀ mi ∈ ([zm_X8_torn, zm_X8_count, zm_J6_bitCount_0f7a4, zm_J0_length_8abf5, zm_J0_charAt_5068e, zm_J0_coder_7d493, zm_J0_isLatin1_aae02, zm_J0_checkIndex_df160, zm_J1_charAt_3b067, zm_J2_getChar_3b067, zm_J2_length_9d52b, zm_J2_charAt_3b067, zm_J2_checkIndex_2214a, zm_J7_fill_53178, zm_J3_checkIndex_8e157] : List zMi), zCW mi := List.forall_mem_cons.mpr ⟨zcw_of zw_X8_torn, List.forall_mem_cons.mpr ⟨zcw_of zw_X8_count, List.forall_mem_cons.mpr ⟨zcw_of zw_J6_bitCount_0f7a4, List.forall_mem_cons.mpr ⟨zcw_of zw_J0_length_8abf5, List.forall_mem_cons.mpr ⟨zcw_of zw_J0_charAt_5068e, List.forall_mem_cons.mpr ⟨zcw_of zw_J0_coder_7d493, List.forall_mem_cons.mpr ⟨zcw_of zw_J0_isLatin1_aae02, List.forall_mem_cons.mpr ⟨zcw_of zw_J0_checkIndex_df160, List.forall_mem_cons.mpr ⟨zcw_of zw_J1_charAt_3b067, List.forall_mem_cons.mpr ⟨zcw_of zw_J2_getChar_3b067, List.forall_mem_cons.mpr ⟨zcw_of zw_J2_length_9d52b, List.forall_mem_cons.mpr ⟨zcw_of zw_J2_charAt_3b067, List.forall_mem_cons.mpr ⟨zcw_of zw_J2_checkIndex_2214a, List.forall_mem_cons.mpr ⟨zcw_of zw_J7_fill_53178, List.forall_mem_cons.mpr ⟨zcw_of zw_J3_checkIndex_8e157, fun _ h => absurd h List.not_mem_nil⟩⟩⟩⟩⟩⟩⟩⟩⟩⟩⟩⟩⟩⟩⟩
set_option maxRecDepth 100000 in
theorem zms_cw : ∀ mi ∈ zms.take 195, zCW mi := by
  show ∀ mi ∈ ([zm_X0_init, zm_X0_clear, zm_X0_become, zm_X0_has, zm_X0_hasAll, zm_X0_join, zm_X0_lefts, zm_X0_useHands, zm_X0_swapTurned, zm_X0_leastOf, zm_X0_least, zm_X0_greatest, zm_X0_allTurned, zm_X0_allMarks, zm_X0_welcome, zm_X0_opensTo, zm_X0_attempt, zm_X0_calm, zm_X1_init, zm_X1_become] : List zMi) ++ (([zm_X1_turned, zm_X1_setTurned, zm_X1_marks, zm_X1_enter, zm_X1_calm, zm_X2_init, zm_X2_readAll, zm_X2_fail, zm_X2_allAreThere, zm_X2_readLine, zm_X2_failToken, zm_X2_wantsStop, zm_X2_wantsNumber, zm_X2_readOne, zm_X2_readLeft, zm_X2_readSlack, zm_X2_readPlan, zm_X2_next, zm_X2_isLetter, zm_X2_isFigure] : List zMi) ++ (([zm_X2_word, zm_X2_spells, zm_X2_wordText, zm_X3_init, zm_X3_play, zm_X3_note, zm_X4_init, zm_X4_inRow, zm_X4_bestOrder, zm_X4_arrange, zm_X4_takeIfBetter, zm_X4_shortestWait, zm_X4_makesWay, zm_X5_init, zm_X5_renew, zm_X5_faultAt, zm_X5_faultAs, zm_X5_write, zm_X6_init, zm_X6_note] : List zMi) ++ (([zm_X6_fits, zm_X6_clearTally, zm_X6_addToTally, zm_X6_worst, zm_X7_init, zm_X7_feed, zm_X7_end, zm_X7_text, zm_X7_fault, zm_X7_rule, zm_X7_one, zm_X7_act, zm_X7_alter, zm_X7_mostOf, zm_X7_slack, zm_X7_plan, zm_X7_cut, zm_X7_turn, zm_X7_rest, zm_X7_runs] : List zMi) ++ (([zm_X7_ahead, zm_X7_round, zm_X7_rehearse, zm_X7_order, zm_X7_await, zm_X7_asksForRow, zm_X7_hands, zm_X7_clean, zm_X7_rehearseWith, zm_X7_trade, zm_X7_loose, zm_X7_rehearseSlack, zm_X7_mean, zm_X7_luck, zm_X7_rehearseWithout, zm_X7_odds, zm_X7_allOdds, zm_X7_partOfFraction, zm_X7_commonDivisor, zm_X7_see] : List zMi) ++ (([zm_X7_forget, zm_X7_counts, zm_X7_slacks, zm_X7_look, zm_X7_tallyGuesses, zm_X7_drift, zm_X7_keep, zm_X7_back, zm_X7_sheet, zm_X7_lay, zm_X7_read, zm_X7_torn, zm_X7_count, zm_X8_init, zm_X8_in, zm_X8_feed, zm_X8_end, zm_X8_byteAt, zm_X8_fails, zm_X8_nameHere] : List zMi) ++ (([zm_X8_step, zm_X8_other, zm_X8_readPlan, zm_X8_readMore, zm_X8_readLine, zm_X8_text, zm_X8_fault, zm_X8_isOne, zm_X8_countAt, zm_X8_countOf, zm_X8_leastOn, zm_X8_mostOn, zm_X8_isNear, zm_X8_rule, zm_X8_one, zm_X8_act, zm_X8_puts, zm_X8_alter, zm_X8_slack, zm_X8_all] : List zMi) ++ (([zm_X8_plan, zm_X8_cut, zm_X8_triesOn, zm_X8_restsOn, zm_X8_turns, zm_X8_turn, zm_X8_rest, zm_X8_copies, zm_X8_planGoes, zm_X8_tries, zm_X8_runs, zm_X8_ahead, zm_X8_round, zm_X8_bitsOf, zm_X8_powerOf, zm_X8_figureOf, zm_X8_order, zm_X8_isBehind, zm_X8_await, zm_X8_hands] : List zMi) ++ (([zm_X8_clean, zm_X8_trade, zm_X8_loose, zm_X8_lowest, zm_X8_byAway, zm_X8_mean, zm_X8_luck, zm_X8_see, zm_X8_forget, zm_X8_isAsSeen, zm_X8_fitsOf, zm_X8_counts, zm_X8_slacks, zm_X8_look, zm_X8_drift, zm_X8_keep, zm_X8_back, zm_X8_sheet, zm_X8_lay, zm_X8_read] : List zMi) ++ (([zm_X8_torn, zm_X8_count, zm_J6_bitCount_0f7a4, zm_J0_length_8abf5, zm_J0_charAt_5068e, zm_J0_coder_7d493, zm_J0_isLatin1_aae02, zm_J0_checkIndex_df160, zm_J1_charAt_3b067, zm_J2_getChar_3b067, zm_J2_length_9d52b, zm_J2_charAt_3b067, zm_J2_checkIndex_2214a, zm_J7_fill_53178, zm_J3_checkIndex_8e157] : List zMi)))))))))), zCW mi
  exact List.forall_mem_append.mpr ⟨zcc_0, List.forall_mem_append.mpr ⟨zcc_1, List.forall_mem_append.mpr ⟨zcc_2, List.forall_mem_append.mpr ⟨zcc_3, List.forall_mem_append.mpr ⟨zcc_4, List.forall_mem_append.mpr ⟨zcc_5, List.forall_mem_append.mpr ⟨zcc_6, List.forall_mem_append.mpr ⟨zcc_7, List.forall_mem_append.mpr ⟨zcc_8, zcc_9⟩⟩⟩⟩⟩⟩⟩⟩⟩
