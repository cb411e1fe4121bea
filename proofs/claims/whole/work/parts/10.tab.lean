def mX0_init : zMt := (yX0_init, cX0_init, 2, none, 1, 20)
def mX0_succeeds : zMt := (yX0_succeeds, cX0_succeeds, 5, (some .boolean), 5, 124)
def mX0_changes : zMt := (yX0_changes, cX0_changes, 6, (some .boolean), 4, 91)
def mX1_init : zMt := (yX1_init, cX1_init, 2, none, 3, 60)
def mX1_remember : zMt := (yX1_remember, cX1_remember, 2, none, 3, 102)
def mX1_takeBack : zMt := (yX1_takeBack, cX1_takeBack, 2, none, 3, 102)
def mX1_forget : zMt := (yX1_forget, cX1_forget, 1, none, 0, 0)
def mX2_init : zMt := (yX2_init, cX2_init, 1, none, 1, 20)
def mX2_makeAllEmpty : zMt := (yX2_makeAllEmpty, cX2_makeAllEmpty, 2, none, 0, 0)
def mX2_copyFrom : zMt := (yX2_copyFrom, cX2_copyFrom, 2, none, 1, 60)
def mX2_copyOne : zMt := (yX2_copyOne, cX2_copyOne, 4, none, 0, 0)
def mX2_makeClaim : zMt := (yX2_makeClaim, cX2_makeClaim, 5, none, 0, 0)
def mX2_isClaimOf : zMt := (yX2_isClaimOf, cX2_isClaimOf, 3, (some .boolean), 0, 0)
def mX2_isExpiredClaim : zMt := (yX2_isExpiredClaim, cX2_isExpiredClaim, 3, (some .boolean), 0, 0)
def mX2_isLiveClaim : zMt := (yX2_isLiveClaim, cX2_isLiveClaim, 3, (some .boolean), 0, 0)
def mX2_isBetter : zMt := (yX2_isBetter, cX2_isBetter, 6, (some .boolean), 1, 22)
def mX3_init : zMt := (yX3_init, cX3_init, 1, none, 1, 20)
def mX3_findBest : zMt := (yX3_findBest, cX3_findBest, 4, none, 5, 119)
def mX3_mostFor : zMt := (yX3_mostFor, cX3_mostFor, 6, (some .int), 3, 71)
def mX3_mayTake : zMt := (yX3_mayTake, cX3_mayTake, 4, (some .boolean), 1, 21)
def mX3_worthOf : zMt := (yX3_worthOf, cX3_worthOf, 5, (some .int), 2, 47)
def mX3_followBest : zMt := (yX3_followBest, cX3_followBest, 5, none, 4, 95)
def mX3_smallestBest : zMt := (yX3_smallestBest, cX3_smallestBest, 5, (some .int), 3, 71)
def mX4_init : zMt := (yX4_init, cX4_init, 1, none, 2, 40)
def mX4_makeSteps : zMt := (yX4_makeSteps, cX4_makeSteps, 5, none, 4, 100)
def mX4_compareNotes : zMt := (yX4_compareNotes, cX4_compareNotes, 7, none, 3, 74)
def mX4_bestNote : zMt := (yX4_bestNote, cX4_bestNote, 8, (some .int), 2, 47)
def mX4_chooseClaim : zMt := (yX4_chooseClaim, cX4_chooseClaim, 3, none, 3, 74)
def mX4_nearest : zMt := (yX4_nearest, cX4_nearest, 8, (some .int), 2, 47)
def mX4_workOrMove : zMt := (yX4_workOrMove, cX4_workOrMove, 3, none, 3, 67)
def mX4_moveTowards : zMt := (yX4_moveTowards, cX4_moveTowards, 4, none, 0, 0)
def mX5_init : zMt := (yX5_init, cX5_init, 1, none, 1, 20)
def mX5_hasRoom : zMt := (yX5_hasRoom, cX5_hasRoom, 1, (some .boolean), 0, 0)
def mX5_add : zMt := (yX5_add, cX5_add, 2, none, 1, 20)
def mX5_readInto : zMt := (yX5_readInto, cX5_readInto, 5, (some .int), 5, 115)
def mX5_readAgent : zMt := (yX5_readAgent, cX5_readAgent, 4, (some .int), 4, 91)
def mX5_readTask : zMt := (yX5_readTask, cX5_readTask, 5, (some .int), 4, 91)
def mX5_badInPlace : zMt := (yX5_badInPlace, cX5_badInPlace, 3, (some .int), 3, 69)
def mX5_badInNumber : zMt := (yX5_badInNumber, cX5_badInNumber, 7, (some .int), 2, 43)
def mX5_numberAt : zMt := (yX5_numberAt, cX5_numberAt, 2, (some .int), 2, 43)
def mX5_digitAt : zMt := (yX5_digitAt, cX5_digitAt, 3, (some .int), 1, 21)
def mX5_codeAt : zMt := (yX5_codeAt, cX5_codeAt, 2, (some .int), 0, 0)
def mX6_init : zMt := (yX6_init, cX6_init, 1, none, 2, 40)
def mX6_copyFrom : zMt := (yX6_copyFrom, cX6_copyFrom, 2, none, 2, 81)
def mX6_makeBare : zMt := (yX6_makeBare, cX6_makeBare, 2, none, 1, 21)
def mX6_addAgent : zMt := (yX6_addAgent, cX6_addAgent, 5, none, 0, 0)
def mX6_addTask : zMt := (yX6_addTask, cX6_addTask, 5, none, 0, 0)
def mX6_hasAgent : zMt := (yX6_hasAgent, cX6_hasAgent, 2, (some .boolean), 0, 0)
def mX6_hasTask : zMt := (yX6_hasTask, cX6_hasTask, 2, (some .boolean), 0, 0)
def mX6_isOn : zMt := (yX6_isOn, cX6_isOn, 2, (some .boolean), 0, 0)
def mX6_isFinished : zMt := (yX6_isFinished, cX6_isFinished, 2, (some .boolean), 0, 0)
def mX6_wayToTask : zMt := (yX6_wayToTask, cX6_wayToTask, 3, (some .int), 1, 25)
def mX6_ownsLiveClaim : zMt := (yX6_ownsLiveClaim, cX6_ownsLiveClaim, 4, (some .boolean), 1, 22)
def mX6_ownTask : zMt := (yX6_ownTask, cX6_ownTask, 3, (some .int), 2, 45)
def mX6_areInTouch : zMt := (yX6_areInTouch, cX6_areInTouch, 3, (some .boolean), 1, 25)
def mX6_heardBy : zMt := (yX6_heardBy, cX6_heardBy, 4, (some .int), 2, 47)
def mX6_passedOn : zMt := (yX6_passedOn, cX6_passedOn, 4, (some .int), 3, 70)
def mX6_groupCount : zMt := (yX6_groupCount, cX6_groupCount, 4, (some .int), 5, 116)
def mX6_groupOf : zMt := (yX6_groupOf, cX6_groupOf, 4, (some .int), 4, 93)
def mX6_placeAgent : zMt := (yX6_placeAgent, cX6_placeAgent, 4, none, 0, 0)
def mX6_switchAgent : zMt := (yX6_switchAgent, cX6_switchAgent, 2, none, 0, 0)
def mX6_setAllRanges : zMt := (yX6_setAllRanges, cX6_setAllRanges, 3, none, 0, 0)
def mX6_canPassClaim : zMt := (yX6_canPassClaim, cX6_canPassClaim, 3, (some .boolean), 3, 67)
def mX6_passClaim : zMt := (yX6_passClaim, cX6_passClaim, 5, none, 3, 67)
def mX6_dropClaims : zMt := (yX6_dropClaims, cX6_dropClaims, 5, (some .int), 1, 22)
def mX6_finishedTasks : zMt := (yX6_finishedTasks, cX6_finishedTasks, 3, (some .int), 1, 21)
def mX6_allProgress : zMt := (yX6_allProgress, cX6_allProgress, 1, (some .int), 1, 23)
def mX6_allMoves : zMt := (yX6_allMoves, cX6_allMoves, 1, (some .int), 1, 23)
def mX6_allWasted : zMt := (yX6_allWasted, cX6_allWasted, 1, (some .int), 1, 23)
def mX6_sumOf : zMt := (yX6_sumOf, cX6_sumOf, 4, (some .int), 0, 0)
def mX6_knowers : zMt := (yX6_knowers, cX6_knowers, 4, (some .int), 1, 21)
def mX6_isKnownToAll : zMt := (yX6_isKnownToAll, cX6_isKnownToAll, 2, (some .boolean), 2, 44)
def mX6_claimants : zMt := (yX6_claimants, cX6_claimants, 4, (some .int), 2, 45)
def mX6_doublyClaimed : zMt := (yX6_doublyClaimed, cX6_doublyClaimed, 3, (some .int), 3, 68)
def mX6_unknownFinishes : zMt := (yX6_unknownFinishes, cX6_unknownFinishes, 3, (some .int), 2, 44)
def mX6_claimsOfLostAgents : zMt := (yX6_claimsOfLostAgents, cX6_claimsOfLostAgents, 5, (some .int), 1, 22)
def mX7_init : zMt := (yX7_init, cX7_init, 2, none, 4, 81)
def mX7_append : zMt := (yX7_append, cX7_append, 2, (some .int), 8, 124)
def mX7_clearText : zMt := (yX7_clearText, cX7_clearText, 2, (some .int), 0, 0)
def mX7_errorPosition : zMt := (yX7_errorPosition, cX7_errorPosition, 1, (some .int), 6, 139)
def mX7_load : zMt := (yX7_load, cX7_load, 1, (some .int), 7, 139)
def mX7_about : zMt := (yX7_about, cX7_about, 2, (some .int), 8, 124)
def mX7_agent : zMt := (yX7_agent, cX7_agent, 3, (some .int), 8, 124)
def mX7_task : zMt := (yX7_task, cX7_task, 3, (some .int), 8, 124)
def mX7_note : zMt := (yX7_note, cX7_note, 5, (some .int), 8, 124)
def mX7_step : zMt := (yX7_step, cX7_step, 2, (some .int), 8, 124)
def mX7_setRange : zMt := (yX7_setRange, cX7_setRange, 4, (some .int), 8, 124)
def mX7_put : zMt := (yX7_put, cX7_put, 5, (some .int), 8, 124)
def mX7_toggle : zMt := (yX7_toggle, cX7_toggle, 2, (some .int), 7, 123)
def mX7_handOver : zMt := (yX7_handOver, cX7_handOver, 4, (some .int), 7, 123)
def mX7_drop : zMt := (yX7_drop, cX7_drop, 2, (some .int), 7, 123)
def mX7_setLifetime : zMt := (yX7_setLifetime, cX7_setLifetime, 3, (some .int), 8, 124)
def mX7_undo : zMt := (yX7_undo, cX7_undo, 1, (some .int), 7, 123)
def mX7_hops : zMt := (yX7_hops, cX7_hops, 5, (some .int), 7, 102)
def mX7_groups : zMt := (yX7_groups, cX7_groups, 1, (some .int), 6, 139)
def mX7_rangeNeeded : zMt := (yX7_rangeNeeded, cX7_rangeNeeded, 2, (some .int), 6, 139)
def mX7_conflicts : zMt := (yX7_conflicts, cX7_conflicts, 2, (some .int), 8, 124)
def mX7_finishedAfter : zMt := (yX7_finishedAfter, cX7_finishedAfter, 3, (some .int), 8, 124)
def mX7_knownAfter : zMt := (yX7_knownAfter, cX7_knownAfter, 3, (some .int), 7, 124)
def mX7_wastedIf : zMt := (yX7_wastedIf, cX7_wastedIf, 3, (some .int), 8, 124)
def mX7_worstLoss : zMt := (yX7_worstLoss, cX7_worstLoss, 6, (some .int), 8, 146)
def mX7_progressWithout : zMt := (yX7_progressWithout, cX7_progressWithout, 3, (some .int), 5, 124)
def mX7_bestShare : zMt := (yX7_bestShare, cX7_bestShare, 2, (some .int), 7, 142)
def mX7_runScript : zMt := (yX7_runScript, cX7_runScript, 8, (some .int), 8, 148)
def mX7_simulate : zMt := (yX7_simulate, cX7_simulate, 7, (some .int), 8, 124)
def mX7_disturb : zMt := (yX7_disturb, cX7_disturb, 3, none, 1, 23)
def mX7_save : zMt := (yX7_save, cX7_save, 2, (some .int), 7, 102)
def mX7_restore : zMt := (yX7_restore, cX7_restore, 2, (some .int), 7, 102)
def mX7_requireIndex : zMt := (yX7_requireIndex, cX7_requireIndex, 1, none, 6, 82)
def mX7_requireBetween : zMt := (yX7_requireBetween, cX7_requireBetween, 3, none, 7, 102)
def mX7_requireArgument : zMt := (yX7_requireArgument, cX7_requireArgument, 1, none, 6, 82)
def mX7_requireState : zMt := (yX7_requireState, cX7_requireState, 1, none, 6, 82)
def mX7_distanceOf : zMt := (yX7_distanceOf, cX7_distanceOf, 6, (some .int), 0, 0)
def mX7_isIn : zMt := (yX7_isIn, cX7_isIn, 2, (some .boolean), 0, 0)
def mX7_noteIndex : zMt := (yX7_noteIndex, cX7_noteIndex, 2, (some .int), 0, 0)
def mX8_init : zMt := (yX8_init, cX8_init, 1, none, 1, 20)
def mX8_thrown : zMt := (yX8_thrown, cX8_thrown, 1, (some .int), 0, 0)
def mX8_refused : zMt := (yX8_refused, cX8_refused, 2, (some .boolean), 0, 0)
def mX8_in : zMt := (yX8_in, cX8_in, 6, (some .boolean), 0, 0)
def mX8_copy : zMt := (yX8_copy, cX8_copy, 6, none, 0, 0)
def mX8_tenTo : zMt := (yX8_tenTo, cX8_tenTo, 4, (some .long), 0, 0)
def mX8_note : zMt := (yX8_note, cX8_note, 1, none, 1, 25)
def mX8_size : zMt := (yX8_size, cX8_size, 1, (some .int), 0, 0)
def mX8_agentAt : zMt := (yX8_agentAt, cX8_agentAt, 1, (some .int), 0, 0)
def mX8_taskAt : zMt := (yX8_taskAt, cX8_taskAt, 1, (some .int), 0, 0)
def mX8_noteAt : zMt := (yX8_noteAt, cX8_noteAt, 2, (some .int), 0, 0)
def mX8_isAgent : zMt := (yX8_isAgent, cX8_isAgent, 2, (some .boolean), 1, 25)
def mX8_isTask : zMt := (yX8_isTask, cX8_isTask, 2, (some .boolean), 1, 25)
def mX8_isOn : zMt := (yX8_isOn, cX8_isOn, 2, (some .boolean), 1, 20)
def mX8_isDone : zMt := (yX8_isDone, cX8_isDone, 2, (some .boolean), 1, 20)
def mX8_apart : zMt := (yX8_apart, cX8_apart, 3, (some .int), 1, 20)
def mX8_far : zMt := (yX8_far, cX8_far, 3, (some .int), 1, 20)
def mX8_hears : zMt := (yX8_hears, cX8_hears, 4, (some .boolean), 2, 42)
def mX8_isLive : zMt := (yX8_isLive, cX8_isLive, 3, (some .boolean), 0, 0)
def mX8_better : zMt := (yX8_better, cX8_better, 9, (some .boolean), 1, 22)
def mX8_lay : zMt := (yX8_lay, cX8_lay, 6, none, 0, 0)
def mX8_isOwn : zMt := (yX8_isOwn, cX8_isOwn, 3, (some .boolean), 1, 22)
def mX8_ownTask : zMt := (yX8_ownTask, cX8_ownTask, 3, (some .int), 2, 44)
def mX8_listen : zMt := (yX8_listen, cX8_listen, 6, none, 3, 65)
def mX8_claim : zMt := (yX8_claim, cX8_claim, 6, none, 2, 44)
def mX8_work : zMt := (yX8_work, cX8_work, 6, none, 3, 66)
def mX8_stepOn : zMt := (yX8_stepOn, cX8_stepOn, 3, none, 4, 91)
def mX8_finished : zMt := (yX8_finished, cX8_finished, 3, (some .int), 2, 41)
def mX8_sumOf : zMt := (yX8_sumOf, cX8_sumOf, 4, (some .int), 1, 20)
def mX8_progress : zMt := (yX8_progress, cX8_progress, 3, (some .int), 1, 20)
def mX8_append : zMt := (yX8_append, cX8_append, 2, (some .int), 1, 25)
def mX8_clearText : zMt := (yX8_clearText, cX8_clearText, 2, (some .int), 0, 0)
def mX8_digit : zMt := (yX8_digit, cX8_digit, 4, (some .int), 1, 25)
def mX8_two : zMt := (yX8_two, cX8_two, 5, (some .int), 2, 48)
def mX8_readAgent : zMt := (yX8_readAgent, cX8_readAgent, 5, (some .boolean), 3, 72)
def mX8_readTask : zMt := (yX8_readTask, cX8_readTask, 5, (some .boolean), 3, 72)
def mX8_readText : zMt := (yX8_readText, cX8_readText, 4, (some .int), 4, 96)
def mX8_errorPosition : zMt := (yX8_errorPosition, cX8_errorPosition, 1, (some .int), 5, 119)
def mX8_load : zMt := (yX8_load, cX8_load, 1, (some .int), 5, 119)
def mX8_about : zMt := (yX8_about, cX8_about, 4, (some .int), 3, 63)
def mX8_agent : zMt := (yX8_agent, cX8_agent, 6, (some .int), 3, 66)
def mX8_claimers : zMt := (yX8_claimers, cX8_claimers, 4, (some .int), 2, 44)
def mX8_task : zMt := (yX8_task, cX8_task, 5, (some .int), 3, 67)
def mX8_note_ : zMt := (yX8_note_, cX8_note_, 5, (some .int), 2, 46)
def mX8_step : zMt := (yX8_step, cX8_step, 3, (some .int), 5, 113)
def mX8_setRange : zMt := (yX8_setRange, cX8_setRange, 4, (some .int), 2, 46)
def mX8_isPlace : zMt := (yX8_isPlace, cX8_isPlace, 2, (some .boolean), 1, 25)
def mX8_put : zMt := (yX8_put, cX8_put, 6, (some .int), 2, 46)
def mX8_countOn : zMt := (yX8_countOn, cX8_countOn, 1, (some .int), 2, 43)
def mX8_toggle : zMt := (yX8_toggle, cX8_toggle, 2, (some .int), 3, 63)
def mX8_canHandOver : zMt := (yX8_canHandOver, cX8_canHandOver, 3, (some .boolean), 3, 66)
def mX8_handOn : zMt := (yX8_handOn, cX8_handOn, 5, (some .int), 3, 66)
def mX8_handOver : zMt := (yX8_handOver, cX8_handOver, 3, (some .int), 4, 90)
def mX8_dropOn : zMt := (yX8_dropOn, cX8_dropOn, 4, (some .int), 1, 25)
def mX8_drop : zMt := (yX8_drop, cX8_drop, 2, (some .int), 2, 48)
def mX8_setLifetime : zMt := (yX8_setLifetime, cX8_setLifetime, 3, (some .int), 2, 45)
def mX8_undo : zMt := (yX8_undo, cX8_undo, 1, (some .int), 1, 25)
def mX8_layWays : zMt := (yX8_layWays, cX8_layWays, 6, none, 3, 65)
def mX8_hops : zMt := (yX8_hops, cX8_hops, 3, (some .int), 4, 90)
def mX8_groupsOf : zMt := (yX8_groupsOf, cX8_groupsOf, 6, (some .int), 4, 90)
def mX8_groups : zMt := (yX8_groups, cX8_groups, 1, (some .int), 5, 115)
def mX8_setRanges : zMt := (yX8_setRanges, cX8_setRanges, 4, none, 1, 20)
def mX8_rangeNeeded : zMt := (yX8_rangeNeeded, cX8_rangeNeeded, 2, (some .int), 5, 115)
def mX8_doubles : zMt := (yX8_doubles, cX8_doubles, 4, (some .int), 3, 67)
def mX8_conflicts : zMt := (yX8_conflicts, cX8_conflicts, 6, (some .int), 4, 90)
def mX8_finishedAfter : zMt := (yX8_finishedAfter, cX8_finishedAfter, 3, (some .int), 5, 113)
def mX8_isKnown : zMt := (yX8_isKnown, cX8_isKnown, 4, (some .boolean), 2, 41)
def mX8_knownAfter : zMt := (yX8_knownAfter, cX8_knownAfter, 3, (some .int), 5, 113)
def mX8_wastedIf : zMt := (yX8_wastedIf, cX8_wastedIf, 4, (some .int), 5, 113)
def mX8_worstLoss : zMt := (yX8_worstLoss, cX8_worstLoss, 6, (some .int), 5, 113)
def mX8_share : zMt := (yX8_share, cX8_share, 7, (some .int), 3, 64)
def mX8_canGet : zMt := (yX8_canGet, cX8_canGet, 4, (some .boolean), 2, 41)
def mX8_bestShare : zMt := (yX8_bestShare, cX8_bestShare, 3, (some .int), 4, 90)
def mX8_command : zMt := (yX8_command, cX8_command, 8, (some .boolean), 5, 113)
def mX8_runScript : zMt := (yX8_runScript, cX8_runScript, 5, (some .int), 6, 140)
def mX8_simulate : zMt := (yX8_simulate, cX8_simulate, 9, (some .int), 5, 113)
def mX8_save : zMt := (yX8_save, cX8_save, 2, (some .int), 1, 25)
def mX8_restore : zMt := (yX8_restore, cX8_restore, 2, (some .int), 1, 25)
def mJ6_bitCount_0f7a4 : zMt := (yJ6_bitCount_0f7a4, cJ6_bitCount_0f7a4, 1, (some .int), 0, 0)
def mJ9_max_7cf53 : zMt := (yJ9_max_7cf53, cJ9_max_7cf53, 2, (some .int), 0, 0)
def mJ9_min_7cf53 : zMt := (yJ9_min_7cf53, cJ9_min_7cf53, 2, (some .int), 0, 0)
def mL_append : zMt := (yL_append, cL_append, 4, (some .int), 9, 145)
def mL_load : zMt := (yL_load, cL_load, 3, (some .int), 8, 159)
def mL_about : zMt := (yL_about, cL_about, 4, (some .int), 9, 145)
def mL_agent : zMt := (yL_agent, cL_agent, 5, (some .int), 9, 146)
def mL_task : zMt := (yL_task, cL_task, 5, (some .int), 9, 146)
def mL_note : zMt := (yL_note, cL_note, 6, (some .int), 9, 148)
def mL_step : zMt := (yL_step, cL_step, 4, (some .int), 9, 145)
def mL_setRange : zMt := (yL_setRange, cL_setRange, 5, (some .int), 9, 147)
def mL_put : zMt := (yL_put, cL_put, 6, (some .int), 9, 148)
def mL_toggle : zMt := (yL_toggle, cL_toggle, 4, (some .int), 8, 144)
def mL_handOver : zMt := (yL_handOver, cL_handOver, 5, (some .int), 8, 146)
def mL_drop : zMt := (yL_drop, cL_drop, 4, (some .int), 8, 144)
def mL_setLifetime : zMt := (yL_setLifetime, cL_setLifetime, 4, (some .int), 9, 146)
def mL_undo : zMt := (yL_undo, cL_undo, 3, (some .int), 8, 143)
def mL_hops : zMt := (yL_hops, cL_hops, 5, (some .int), 8, 126)
def mL_conflicts : zMt := (yL_conflicts, cL_conflicts, 4, (some .int), 9, 145)
def mL_finishedAfter : zMt := (yL_finishedAfter, cL_finishedAfter, 4, (some .int), 9, 146)
def mL_knownAfter : zMt := (yL_knownAfter, cL_knownAfter, 4, (some .int), 8, 146)
def mL_wastedIf : zMt := (yL_wastedIf, cL_wastedIf, 5, (some .int), 9, 146)
def mL_worstLoss : zMt := (yL_worstLoss, cL_worstLoss, 4, (some .int), 9, 171)
def mL_bestShare : zMt := (yL_bestShare, cL_bestShare, 4, (some .int), 8, 163)
def mL_runScript : zMt := (yL_runScript, cL_runScript, 6, (some .int), 9, 175)
def mL_simulate : zMt := (yL_simulate, cL_simulate, 6, (some .int), 9, 150)
def mL_save : zMt := (yL_save, cL_save, 4, (some .int), 8, 123)
def mL_restore : zMt := (yL_restore, cL_restore, 4, (some .int), 8, 123)
theorem zin_0 : ∀ w ∈ u_ws RX0 TX0 1, w ∈ zTb := by
  intro w hw
  refine List.mem_filter.mpr ⟨?_, ?_⟩
  · exact (by decide +kernel : ∀ w ∈ u_ws RX0 TX0 1, w ∈ lw_tbl) w hw
  · exact (by decide +kernel : ∀ w ∈ u_ws RX0 TX0 1, goodWord w = true) w hw
theorem zcl_0 : zCl 0 RX0 TX0 1 tyX0 := ⟨rfl, zin_0, tyX0_ok, nmX0⟩
theorem zin_1 : ∀ w ∈ u_ws RX1 TX1 3, w ∈ zTb := by
  intro w hw
  refine List.mem_filter.mpr ⟨?_, ?_⟩
  · exact (by decide +kernel : ∀ w ∈ u_ws RX1 TX1 3, w ∈ lw_tbl) w hw
  · exact (by decide +kernel : ∀ w ∈ u_ws RX1 TX1 3, goodWord w = true) w hw
theorem zcl_1 : zCl 1 RX1 TX1 3 tyX1 := ⟨rfl, zin_1, tyX1_ok, nmX1⟩
theorem zin_2 : ∀ w ∈ u_ws RX2 TX2 4, w ∈ zTb := by
  intro w hw
  refine List.mem_filter.mpr ⟨?_, ?_⟩
  · exact (by decide +kernel : ∀ w ∈ u_ws RX2 TX2 4, w ∈ lw_tbl) w hw
  · exact (by decide +kernel : ∀ w ∈ u_ws RX2 TX2 4, goodWord w = true) w hw
theorem zcl_2 : zCl 2 RX2 TX2 4 tyX2 := ⟨rfl, zin_2, tyX2_ok, nmX2⟩
theorem zin_3 : ∀ w ∈ u_ws RX3 TX3 3, w ∈ zTb := by
  intro w hw
  refine List.mem_filter.mpr ⟨?_, ?_⟩
  · exact (by decide +kernel : ∀ w ∈ u_ws RX3 TX3 3, w ∈ lw_tbl) w hw
  · exact (by decide +kernel : ∀ w ∈ u_ws RX3 TX3 3, goodWord w = true) w hw
theorem zcl_3 : zCl 3 RX3 TX3 3 tyX3 := ⟨rfl, zin_3, tyX3_ok, nmX3⟩
theorem zin_4 : ∀ w ∈ u_ws RX4 TX4 1, w ∈ zTb := by
  intro w hw
  refine List.mem_filter.mpr ⟨?_, ?_⟩
  · exact (by decide +kernel : ∀ w ∈ u_ws RX4 TX4 1, w ∈ lw_tbl) w hw
  · exact (by decide +kernel : ∀ w ∈ u_ws RX4 TX4 1, goodWord w = true) w hw
theorem zcl_4 : zCl 4 RX4 TX4 1 tyX4 := ⟨rfl, zin_4, tyX4_ok, nmX4⟩
theorem zin_5 : ∀ w ∈ u_ws RX5 TX5 2, w ∈ zTb := by
  intro w hw
  refine List.mem_filter.mpr ⟨?_, ?_⟩
  · exact (by decide +kernel : ∀ w ∈ u_ws RX5 TX5 2, w ∈ lw_tbl) w hw
  · exact (by decide +kernel : ∀ w ∈ u_ws RX5 TX5 2, goodWord w = true) w hw
theorem zcl_5 : zCl 5 RX5 TX5 2 tyX5 := ⟨rfl, zin_5, tyX5_ok, nmX5⟩
theorem zin_6 : ∀ w ∈ u_ws RX6 TX6 15, w ∈ zTb := by
  intro w hw
  refine List.mem_filter.mpr ⟨?_, ?_⟩
  · exact (by decide +kernel : ∀ w ∈ u_ws RX6 TX6 15, w ∈ lw_tbl) w hw
  · exact (by decide +kernel : ∀ w ∈ u_ws RX6 TX6 15, goodWord w = true) w hw
theorem zcl_6 : zCl 6 RX6 TX6 15 tyX6 := ⟨rfl, zin_6, tyX6_ok, nmX6⟩
theorem zin_7 : ∀ w ∈ u_ws RX7 TX7 9, w ∈ zTb := by
  intro w hw
  refine List.mem_filter.mpr ⟨?_, ?_⟩
  · exact (by decide +kernel : ∀ w ∈ u_ws RX7 TX7 9, w ∈ lw_tbl) w hw
  · exact (by decide +kernel : ∀ w ∈ u_ws RX7 TX7 9, goodWord w = true) w hw
theorem zcl_7 : zCl 7 RX7 TX7 9 tyX7 := ⟨rfl, zin_7, tyX7_ok, nmX7⟩
theorem zin_8 : ∀ w ∈ u_ws RX8 TX8 15, w ∈ zTb := by
  intro w hw
  refine List.mem_filter.mpr ⟨?_, ?_⟩
  · exact (by decide +kernel : ∀ w ∈ u_ws RX8 TX8 15, w ∈ lw_tbl) w hw
  · exact (by decide +kernel : ∀ w ∈ u_ws RX8 TX8 15, goodWord w = true) w hw
theorem zcl_8 : zCl 8 RX8 TX8 15 tyX8 := ⟨rfl, zin_8, tyX8_ok, nmX8⟩
theorem zw33 : Cond.fieldLink RX5 9 (TX5 0).1 (TX5 0).2.1 (TX5 0).2.2.1 ∈ zTb := List.mem_filter.mpr ⟨List.mem_append_right _ (List.mem_of_getElem? (i := 33) (by decide +kernel)), by decide +kernel⟩
theorem zfX5_9 : zFld RX5 9 5 0 (.array .int) true RX5 := ⟨TX5, 2, tyX5, zcl_5, by decide, rfl, rfl, rfl, zw33⟩
theorem zw34 : Cond.fieldLink RX5 15 (TX5 1).1 (TX5 1).2.1 (TX5 1).2.2.1 ∈ zTb := List.mem_filter.mpr ⟨List.mem_append_right _ (List.mem_of_getElem? (i := 34) (by decide +kernel)), by decide +kernel⟩
theorem zfX5_15 : zFld RX5 15 5 1 .int false RX5 := ⟨TX5, 2, tyX5, zcl_5, by decide, rfl, rfl, rfl, zw34⟩
theorem zw35 : Cond.fieldLink RX7 80 (TX5 1).1 (TX5 1).2.1 (TX5 1).2.2.1 ∈ zTb := List.mem_filter.mpr ⟨List.mem_append_right _ (List.mem_of_getElem? (i := 35) (by decide +kernel)), by decide +kernel⟩
theorem zfX7_80 : zFld RX7 80 5 1 .int false RX5 := ⟨TX5, 2, tyX5, zcl_5, by decide, rfl, rfl, rfl, zw35⟩
theorem zw54 : Cond.fieldLink RX2 9 (TX2 0).1 (TX2 0).2.1 (TX2 0).2.2.1 ∈ zTb := List.mem_filter.mpr ⟨List.mem_append_right _ (List.mem_of_getElem? (i := 54) (by decide +kernel)), by decide +kernel⟩
theorem zfX2_9 : zFld RX2 9 2 0 (.array .int) true RX2 := ⟨TX2, 4, tyX2, zcl_2, by decide, rfl, rfl, rfl, zw54⟩
theorem zw55 : Cond.fieldLink RX4 67 (TX2 0).1 (TX2 0).2.1 (TX2 0).2.2.1 ∈ zTb := List.mem_filter.mpr ⟨List.mem_append_right _ (List.mem_of_getElem? (i := 55) (by decide +kernel)), by decide +kernel⟩
theorem zfX4_67 : zFld RX4 67 2 0 (.array .int) true RX2 := ⟨TX2, 4, tyX2, zcl_2, by decide, rfl, rfl, rfl, zw55⟩
theorem zw56 : Cond.fieldLink RX7 184 (TX2 0).1 (TX2 0).2.1 (TX2 0).2.2.1 ∈ zTb := List.mem_filter.mpr ⟨List.mem_append_right _ (List.mem_of_getElem? (i := 56) (by decide +kernel)), by decide +kernel⟩
theorem zfX7_184 : zFld RX7 184 2 0 (.array .int) true RX2 := ⟨TX2, 4, tyX2, zcl_2, by decide, rfl, rfl, rfl, zw56⟩
theorem zw57 : Cond.fieldLink RX6 128 (TX2 0).1 (TX2 0).2.1 (TX2 0).2.2.1 ∈ zTb := List.mem_filter.mpr ⟨List.mem_append_right _ (List.mem_of_getElem? (i := 57) (by decide +kernel)), by decide +kernel⟩
theorem zfX6_128 : zFld RX6 128 2 0 (.array .int) true RX2 := ⟨TX2, 4, tyX2, zcl_2, by decide, rfl, rfl, rfl, zw57⟩
theorem zw58 : Cond.fieldLink RX2 15 (TX2 1).1 (TX2 1).2.1 (TX2 1).2.2.1 ∈ zTb := List.mem_filter.mpr ⟨List.mem_append_right _ (List.mem_of_getElem? (i := 58) (by decide +kernel)), by decide +kernel⟩
theorem zfX2_15 : zFld RX2 15 2 1 (.array .int) true RX2 := ⟨TX2, 4, tyX2, zcl_2, by decide, rfl, rfl, rfl, zw58⟩
theorem zw59 : Cond.fieldLink RX7 189 (TX2 1).1 (TX2 1).2.1 (TX2 1).2.2.1 ∈ zTb := List.mem_filter.mpr ⟨List.mem_append_right _ (List.mem_of_getElem? (i := 59) (by decide +kernel)), by decide +kernel⟩
theorem zfX7_189 : zFld RX7 189 2 1 (.array .int) true RX2 := ⟨TX2, 4, tyX2, zcl_2, by decide, rfl, rfl, rfl, zw59⟩
theorem zw60 : Cond.fieldLink RX6 149 (TX2 1).1 (TX2 1).2.1 (TX2 1).2.2.1 ∈ zTb := List.mem_filter.mpr ⟨List.mem_append_right _ (List.mem_of_getElem? (i := 60) (by decide +kernel)), by decide +kernel⟩
theorem zfX6_149 : zFld RX6 149 2 1 (.array .int) true RX2 := ⟨TX2, 4, tyX2, zcl_2, by decide, rfl, rfl, rfl, zw60⟩
theorem zw61 : Cond.fieldLink RX2 18 (TX2 2).1 (TX2 2).2.1 (TX2 2).2.2.1 ∈ zTb := List.mem_filter.mpr ⟨List.mem_append_right _ (List.mem_of_getElem? (i := 61) (by decide +kernel)), by decide +kernel⟩
theorem zfX2_18 : zFld RX2 18 2 2 (.array .int) true RX2 := ⟨TX2, 4, tyX2, zcl_2, by decide, rfl, rfl, rfl, zw61⟩
theorem zw62 : Cond.fieldLink RX7 192 (TX2 2).1 (TX2 2).2.1 (TX2 2).2.2.1 ∈ zTb := List.mem_filter.mpr ⟨List.mem_append_right _ (List.mem_of_getElem? (i := 62) (by decide +kernel)), by decide +kernel⟩
theorem zfX7_192 : zFld RX7 192 2 2 (.array .int) true RX2 := ⟨TX2, 4, tyX2, zcl_2, by decide, rfl, rfl, rfl, zw62⟩
theorem zw63 : Cond.fieldLink RX2 21 (TX2 3).1 (TX2 3).2.1 (TX2 3).2.2.1 ∈ zTb := List.mem_filter.mpr ⟨List.mem_append_right _ (List.mem_of_getElem? (i := 63) (by decide +kernel)), by decide +kernel⟩
theorem zfX2_21 : zFld RX2 21 2 3 (.array .int) true RX2 := ⟨TX2, 4, tyX2, zcl_2, by decide, rfl, rfl, rfl, zw63⟩
theorem zw64 : Cond.fieldLink RX7 195 (TX2 3).1 (TX2 3).2.1 (TX2 3).2.2.1 ∈ zTb := List.mem_filter.mpr ⟨List.mem_append_right _ (List.mem_of_getElem? (i := 64) (by decide +kernel)), by decide +kernel⟩
theorem zfX7_195 : zFld RX7 195 2 3 (.array .int) true RX2 := ⟨TX2, 4, tyX2, zcl_2, by decide, rfl, rfl, rfl, zw64⟩
theorem zw74 : Cond.fieldLink RX6 50 (TX6 0).1 (TX6 0).2.1 (TX6 0).2.2.1 ∈ zTb := List.mem_filter.mpr ⟨List.mem_append_right _ (List.mem_of_getElem? (i := 74) (by decide +kernel)), by decide +kernel⟩
theorem zfX6_50 : zFld RX6 50 6 0 .int false RX6 := ⟨TX6, 15, tyX6, zcl_6, by decide, rfl, rfl, rfl, zw74⟩
theorem zw75 : Cond.fieldLink RX3 18 (TX6 0).1 (TX6 0).2.1 (TX6 0).2.2.1 ∈ zTb := List.mem_filter.mpr ⟨List.mem_append_right _ (List.mem_of_getElem? (i := 75) (by decide +kernel)), by decide +kernel⟩
theorem zfX3_18 : zFld RX3 18 6 0 .int false RX6 := ⟨TX6, 15, tyX6, zcl_6, by decide, rfl, rfl, rfl, zw75⟩
theorem zw76 : Cond.fieldLink RX4 27 (TX6 0).1 (TX6 0).2.1 (TX6 0).2.2.1 ∈ zTb := List.mem_filter.mpr ⟨List.mem_append_right _ (List.mem_of_getElem? (i := 76) (by decide +kernel)), by decide +kernel⟩
theorem zfX4_27 : zFld RX4 27 6 0 .int false RX6 := ⟨TX6, 15, tyX6, zcl_6, by decide, rfl, rfl, rfl, zw76⟩
theorem zw77 : Cond.fieldLink RX5 47 (TX6 0).1 (TX6 0).2.1 (TX6 0).2.2.1 ∈ zTb := List.mem_filter.mpr ⟨List.mem_append_right _ (List.mem_of_getElem? (i := 77) (by decide +kernel)), by decide +kernel⟩
theorem zfX5_47 : zFld RX5 47 6 0 .int false RX6 := ⟨TX6, 15, tyX6, zcl_6, by decide, rfl, rfl, rfl, zw77⟩
theorem zw78 : Cond.fieldLink RX7 94 (TX6 0).1 (TX6 0).2.1 (TX6 0).2.2.1 ∈ zTb := List.mem_filter.mpr ⟨List.mem_append_right _ (List.mem_of_getElem? (i := 78) (by decide +kernel)), by decide +kernel⟩
theorem zfX7_94 : zFld RX7 94 6 0 .int false RX6 := ⟨TX6, 15, tyX6, zcl_6, by decide, rfl, rfl, rfl, zw78⟩
theorem zw79 : Cond.fieldLink RX6 53 (TX6 1).1 (TX6 1).2.1 (TX6 1).2.2.1 ∈ zTb := List.mem_filter.mpr ⟨List.mem_append_right _ (List.mem_of_getElem? (i := 79) (by decide +kernel)), by decide +kernel⟩
theorem zfX6_53 : zFld RX6 53 6 1 .int false RX6 := ⟨TX6, 15, tyX6, zcl_6, by decide, rfl, rfl, rfl, zw79⟩
theorem zw80 : Cond.fieldLink RX3 24 (TX6 1).1 (TX6 1).2.1 (TX6 1).2.2.1 ∈ zTb := List.mem_filter.mpr ⟨List.mem_append_right _ (List.mem_of_getElem? (i := 80) (by decide +kernel)), by decide +kernel⟩
theorem zfX3_24 : zFld RX3 24 6 1 .int false RX6 := ⟨TX6, 15, tyX6, zcl_6, by decide, rfl, rfl, rfl, zw80⟩
theorem zw81 : Cond.fieldLink RX4 52 (TX6 1).1 (TX6 1).2.1 (TX6 1).2.2.1 ∈ zTb := List.mem_filter.mpr ⟨List.mem_append_right _ (List.mem_of_getElem? (i := 81) (by decide +kernel)), by decide +kernel⟩
theorem zfX4_52 : zFld RX4 52 6 1 .int false RX6 := ⟨TX6, 15, tyX6, zcl_6, by decide, rfl, rfl, rfl, zw81⟩
theorem zw82 : Cond.fieldLink RX5 57 (TX6 1).1 (TX6 1).2.1 (TX6 1).2.2.1 ∈ zTb := List.mem_filter.mpr ⟨List.mem_append_right _ (List.mem_of_getElem? (i := 82) (by decide +kernel)), by decide +kernel⟩
theorem zfX5_57 : zFld RX5 57 6 1 .int false RX6 := ⟨TX6, 15, tyX6, zcl_6, by decide, rfl, rfl, rfl, zw82⟩
theorem zw83 : Cond.fieldLink RX7 97 (TX6 1).1 (TX6 1).2.1 (TX6 1).2.2.1 ∈ zTb := List.mem_filter.mpr ⟨List.mem_append_right _ (List.mem_of_getElem? (i := 83) (by decide +kernel)), by decide +kernel⟩
theorem zfX7_97 : zFld RX7 97 6 1 .int false RX6 := ⟨TX6, 15, tyX6, zcl_6, by decide, rfl, rfl, rfl, zw83⟩
theorem zw84 : Cond.fieldLink RX6 9 (TX6 2).1 (TX6 2).2.1 (TX6 2).2.2.1 ∈ zTb := List.mem_filter.mpr ⟨List.mem_append_right _ (List.mem_of_getElem? (i := 84) (by decide +kernel)), by decide +kernel⟩
theorem zfX6_9 : zFld RX6 9 6 2 .int false RX6 := ⟨TX6, 15, tyX6, zcl_6, by decide, rfl, rfl, rfl, zw84⟩
theorem zw85 : Cond.fieldLink RX4 92 (TX6 2).1 (TX6 2).2.1 (TX6 2).2.2.1 ∈ zTb := List.mem_filter.mpr ⟨List.mem_append_right _ (List.mem_of_getElem? (i := 85) (by decide +kernel)), by decide +kernel⟩
theorem zfX4_92 : zFld RX4 92 6 2 .int false RX6 := ⟨TX6, 15, tyX6, zcl_6, by decide, rfl, rfl, rfl, zw85⟩
theorem zw86 : Cond.fieldLink RX7 103 (TX6 2).1 (TX6 2).2.1 (TX6 2).2.2.1 ∈ zTb := List.mem_filter.mpr ⟨List.mem_append_right _ (List.mem_of_getElem? (i := 86) (by decide +kernel)), by decide +kernel⟩
theorem zfX7_103 : zFld RX7 103 6 2 .int false RX6 := ⟨TX6, 15, tyX6, zcl_6, by decide, rfl, rfl, rfl, zw86⟩
theorem zw87 : Cond.fieldLink RX6 56 (TX6 3).1 (TX6 3).2.1 (TX6 3).2.2.1 ∈ zTb := List.mem_filter.mpr ⟨List.mem_append_right _ (List.mem_of_getElem? (i := 87) (by decide +kernel)), by decide +kernel⟩
theorem zfX6_56 : zFld RX6 56 6 3 .int false RX6 := ⟨TX6, 15, tyX6, zcl_6, by decide, rfl, rfl, rfl, zw87⟩
theorem zw88 : Cond.fieldLink RX4 45 (TX6 3).1 (TX6 3).2.1 (TX6 3).2.2.1 ∈ zTb := List.mem_filter.mpr ⟨List.mem_append_right _ (List.mem_of_getElem? (i := 88) (by decide +kernel)), by decide +kernel⟩
theorem zfX4_45 : zFld RX4 45 6 3 .int false RX6 := ⟨TX6, 15, tyX6, zcl_6, by decide, rfl, rfl, rfl, zw88⟩
theorem zw89 : Cond.fieldLink RX7 100 (TX6 3).1 (TX6 3).2.1 (TX6 3).2.2.1 ∈ zTb := List.mem_filter.mpr ⟨List.mem_append_right _ (List.mem_of_getElem? (i := 89) (by decide +kernel)), by decide +kernel⟩
theorem zfX7_100 : zFld RX7 100 6 3 .int false RX6 := ⟨TX6, 15, tyX6, zcl_6, by decide, rfl, rfl, rfl, zw89⟩
theorem zw90 : Cond.fieldLink RX6 59 (TX6 4).1 (TX6 4).2.1 (TX6 4).2.2.1 ∈ zTb := List.mem_filter.mpr ⟨List.mem_append_right _ (List.mem_of_getElem? (i := 90) (by decide +kernel)), by decide +kernel⟩
theorem zfX6_59 : zFld RX6 59 6 4 .int false RX6 := ⟨TX6, 15, tyX6, zcl_6, by decide, rfl, rfl, rfl, zw90⟩
theorem zw91 : Cond.fieldLink RX7 116 (TX6 4).1 (TX6 4).2.1 (TX6 4).2.2.1 ∈ zTb := List.mem_filter.mpr ⟨List.mem_append_right _ (List.mem_of_getElem? (i := 91) (by decide +kernel)), by decide +kernel⟩
theorem zfX7_116 : zFld RX7 116 6 4 .int false RX6 := ⟨TX6, 15, tyX6, zcl_6, by decide, rfl, rfl, rfl, zw91⟩
theorem zw92 : Cond.fieldLink RX6 15 (TX6 5).1 (TX6 5).2.1 (TX6 5).2.2.1 ∈ zTb := List.mem_filter.mpr ⟨List.mem_append_right _ (List.mem_of_getElem? (i := 92) (by decide +kernel)), by decide +kernel⟩
theorem zfX6_15 : zFld RX6 15 6 5 (.array .int) true RX6 := ⟨TX6, 15, tyX6, zcl_6, by decide, rfl, rfl, rfl, zw92⟩
theorem zw93 : Cond.fieldLink RX7 126 (TX6 5).1 (TX6 5).2.1 (TX6 5).2.2.1 ∈ zTb := List.mem_filter.mpr ⟨List.mem_append_right _ (List.mem_of_getElem? (i := 93) (by decide +kernel)), by decide +kernel⟩
theorem zfX7_126 : zFld RX7 126 6 5 (.array .int) true RX6 := ⟨TX6, 15, tyX6, zcl_6, by decide, rfl, rfl, rfl, zw93⟩
theorem zw94 : Cond.fieldLink RX4 124 (TX6 5).1 (TX6 5).2.1 (TX6 5).2.2.1 ∈ zTb := List.mem_filter.mpr ⟨List.mem_append_right _ (List.mem_of_getElem? (i := 94) (by decide +kernel)), by decide +kernel⟩
theorem zfX4_124 : zFld RX4 124 6 5 (.array .int) true RX6 := ⟨TX6, 15, tyX6, zcl_6, by decide, rfl, rfl, rfl, zw94⟩
theorem zw95 : Cond.fieldLink RX6 19 (TX6 6).1 (TX6 6).2.1 (TX6 6).2.2.1 ∈ zTb := List.mem_filter.mpr ⟨List.mem_append_right _ (List.mem_of_getElem? (i := 95) (by decide +kernel)), by decide +kernel⟩
theorem zfX6_19 : zFld RX6 19 6 6 (.array .int) true RX6 := ⟨TX6, 15, tyX6, zcl_6, by decide, rfl, rfl, rfl, zw95⟩
theorem zw96 : Cond.fieldLink RX7 130 (TX6 6).1 (TX6 6).2.1 (TX6 6).2.2.1 ∈ zTb := List.mem_filter.mpr ⟨List.mem_append_right _ (List.mem_of_getElem? (i := 96) (by decide +kernel)), by decide +kernel⟩
theorem zfX7_130 : zFld RX7 130 6 6 (.array .int) true RX6 := ⟨TX6, 15, tyX6, zcl_6, by decide, rfl, rfl, rfl, zw96⟩
theorem zw97 : Cond.fieldLink RX4 127 (TX6 6).1 (TX6 6).2.1 (TX6 6).2.2.1 ∈ zTb := List.mem_filter.mpr ⟨List.mem_append_right _ (List.mem_of_getElem? (i := 97) (by decide +kernel)), by decide +kernel⟩
theorem zfX4_127 : zFld RX4 127 6 6 (.array .int) true RX6 := ⟨TX6, 15, tyX6, zcl_6, by decide, rfl, rfl, rfl, zw97⟩
theorem zw98 : Cond.fieldLink RX6 22 (TX6 7).1 (TX6 7).2.1 (TX6 7).2.2.1 ∈ zTb := List.mem_filter.mpr ⟨List.mem_append_right _ (List.mem_of_getElem? (i := 98) (by decide +kernel)), by decide +kernel⟩
theorem zfX6_22 : zFld RX6 22 6 7 (.array .int) true RX6 := ⟨TX6, 15, tyX6, zcl_6, by decide, rfl, rfl, rfl, zw98⟩
theorem zw99 : Cond.fieldLink RX0 45 (TX6 7).1 (TX6 7).2.1 (TX6 7).2.2.1 ∈ zTb := List.mem_filter.mpr ⟨List.mem_append_right _ (List.mem_of_getElem? (i := 99) (by decide +kernel)), by decide +kernel⟩
theorem zfX0_45 : zFld RX0 45 6 7 (.array .int) true RX6 := ⟨TX6, 15, tyX6, zcl_6, by decide, rfl, rfl, rfl, zw99⟩
theorem zw100 : Cond.fieldLink RX7 133 (TX6 7).1 (TX6 7).2.1 (TX6 7).2.2.1 ∈ zTb := List.mem_filter.mpr ⟨List.mem_append_right _ (List.mem_of_getElem? (i := 100) (by decide +kernel)), by decide +kernel⟩
theorem zfX7_133 : zFld RX7 133 6 7 (.array .int) true RX6 := ⟨TX6, 15, tyX6, zcl_6, by decide, rfl, rfl, rfl, zw100⟩
theorem zw101 : Cond.fieldLink RX6 25 (TX6 8).1 (TX6 8).2.1 (TX6 8).2.2.1 ∈ zTb := List.mem_filter.mpr ⟨List.mem_append_right _ (List.mem_of_getElem? (i := 101) (by decide +kernel)), by decide +kernel⟩
theorem zfX6_25 : zFld RX6 25 6 8 (.array .int) true RX6 := ⟨TX6, 15, tyX6, zcl_6, by decide, rfl, rfl, rfl, zw101⟩
theorem zw102 : Cond.fieldLink RX7 143 (TX6 8).1 (TX6 8).2.1 (TX6 8).2.2.1 ∈ zTb := List.mem_filter.mpr ⟨List.mem_append_right _ (List.mem_of_getElem? (i := 102) (by decide +kernel)), by decide +kernel⟩
theorem zfX7_143 : zFld RX7 143 6 8 (.array .int) true RX6 := ⟨TX6, 15, tyX6, zcl_6, by decide, rfl, rfl, rfl, zw102⟩
theorem zw103 : Cond.fieldLink RX4 130 (TX6 8).1 (TX6 8).2.1 (TX6 8).2.2.1 ∈ zTb := List.mem_filter.mpr ⟨List.mem_append_right _ (List.mem_of_getElem? (i := 103) (by decide +kernel)), by decide +kernel⟩
theorem zfX4_130 : zFld RX4 130 6 8 (.array .int) true RX6 := ⟨TX6, 15, tyX6, zcl_6, by decide, rfl, rfl, rfl, zw103⟩
theorem zw104 : Cond.fieldLink RX6 28 (TX6 9).1 (TX6 9).2.1 (TX6 9).2.2.1 ∈ zTb := List.mem_filter.mpr ⟨List.mem_append_right _ (List.mem_of_getElem? (i := 104) (by decide +kernel)), by decide +kernel⟩
theorem zfX6_28 : zFld RX6 28 6 9 (.array .int) true RX6 := ⟨TX6, 15, tyX6, zcl_6, by decide, rfl, rfl, rfl, zw104⟩
theorem zw105 : Cond.fieldLink RX4 118 (TX6 9).1 (TX6 9).2.1 (TX6 9).2.2.1 ∈ zTb := List.mem_filter.mpr ⟨List.mem_append_right _ (List.mem_of_getElem? (i := 105) (by decide +kernel)), by decide +kernel⟩
theorem zfX4_118 : zFld RX4 118 6 9 (.array .int) true RX6 := ⟨TX6, 15, tyX6, zcl_6, by decide, rfl, rfl, rfl, zw105⟩
theorem zw106 : Cond.fieldLink RX7 146 (TX6 9).1 (TX6 9).2.1 (TX6 9).2.2.1 ∈ zTb := List.mem_filter.mpr ⟨List.mem_append_right _ (List.mem_of_getElem? (i := 106) (by decide +kernel)), by decide +kernel⟩
theorem zfX7_146 : zFld RX7 146 6 9 (.array .int) true RX6 := ⟨TX6, 15, tyX6, zcl_6, by decide, rfl, rfl, rfl, zw106⟩
theorem zw107 : Cond.fieldLink RX6 31 (TX6 10).1 (TX6 10).2.1 (TX6 10).2.2.1 ∈ zTb := List.mem_filter.mpr ⟨List.mem_append_right _ (List.mem_of_getElem? (i := 107) (by decide +kernel)), by decide +kernel⟩
theorem zfX6_31 : zFld RX6 31 6 10 (.array .int) true RX6 := ⟨TX6, 15, tyX6, zcl_6, by decide, rfl, rfl, rfl, zw107⟩
theorem zw108 : Cond.fieldLink RX4 105 (TX6 10).1 (TX6 10).2.1 (TX6 10).2.2.1 ∈ zTb := List.mem_filter.mpr ⟨List.mem_append_right _ (List.mem_of_getElem? (i := 108) (by decide +kernel)), by decide +kernel⟩
theorem zfX4_105 : zFld RX4 105 6 10 (.array .int) true RX6 := ⟨TX6, 15, tyX6, zcl_6, by decide, rfl, rfl, rfl, zw108⟩
theorem zw109 : Cond.fieldLink RX7 155 (TX6 10).1 (TX6 10).2.1 (TX6 10).2.2.1 ∈ zTb := List.mem_filter.mpr ⟨List.mem_append_right _ (List.mem_of_getElem? (i := 109) (by decide +kernel)), by decide +kernel⟩
theorem zfX7_155 : zFld RX7 155 6 10 (.array .int) true RX6 := ⟨TX6, 15, tyX6, zcl_6, by decide, rfl, rfl, rfl, zw109⟩
theorem zw110 : Cond.fieldLink RX6 34 (TX6 11).1 (TX6 11).2.1 (TX6 11).2.2.1 ∈ zTb := List.mem_filter.mpr ⟨List.mem_append_right _ (List.mem_of_getElem? (i := 110) (by decide +kernel)), by decide +kernel⟩
theorem zfX6_34 : zFld RX6 34 6 11 (.array .int) true RX6 := ⟨TX6, 15, tyX6, zcl_6, by decide, rfl, rfl, rfl, zw110⟩
theorem zw111 : Cond.fieldLink RX4 108 (TX6 11).1 (TX6 11).2.1 (TX6 11).2.2.1 ∈ zTb := List.mem_filter.mpr ⟨List.mem_append_right _ (List.mem_of_getElem? (i := 111) (by decide +kernel)), by decide +kernel⟩
theorem zfX4_108 : zFld RX4 108 6 11 (.array .int) true RX6 := ⟨TX6, 15, tyX6, zcl_6, by decide, rfl, rfl, rfl, zw111⟩
theorem zw112 : Cond.fieldLink RX7 158 (TX6 11).1 (TX6 11).2.1 (TX6 11).2.2.1 ∈ zTb := List.mem_filter.mpr ⟨List.mem_append_right _ (List.mem_of_getElem? (i := 112) (by decide +kernel)), by decide +kernel⟩
theorem zfX7_158 : zFld RX7 158 6 11 (.array .int) true RX6 := ⟨TX6, 15, tyX6, zcl_6, by decide, rfl, rfl, rfl, zw112⟩
theorem zw113 : Cond.fieldLink RX6 37 (TX6 12).1 (TX6 12).2.1 (TX6 12).2.2.1 ∈ zTb := List.mem_filter.mpr ⟨List.mem_append_right _ (List.mem_of_getElem? (i := 113) (by decide +kernel)), by decide +kernel⟩
theorem zfX6_37 : zFld RX6 37 6 12 (.array .int) true RX6 := ⟨TX6, 15, tyX6, zcl_6, by decide, rfl, rfl, rfl, zw113⟩
theorem zw114 : Cond.fieldLink RX7 161 (TX6 12).1 (TX6 12).2.1 (TX6 12).2.2.1 ∈ zTb := List.mem_filter.mpr ⟨List.mem_append_right _ (List.mem_of_getElem? (i := 114) (by decide +kernel)), by decide +kernel⟩
theorem zfX7_161 : zFld RX7 161 6 12 (.array .int) true RX6 := ⟨TX6, 15, tyX6, zcl_6, by decide, rfl, rfl, rfl, zw114⟩
theorem zw115 : Cond.fieldLink RX6 40 (TX6 13).1 (TX6 13).2.1 (TX6 13).2.2.1 ∈ zTb := List.mem_filter.mpr ⟨List.mem_append_right _ (List.mem_of_getElem? (i := 115) (by decide +kernel)), by decide +kernel⟩
theorem zfX6_40 : zFld RX6 40 6 13 (.array .int) true RX6 := ⟨TX6, 15, tyX6, zcl_6, by decide, rfl, rfl, rfl, zw115⟩
theorem zw116 : Cond.fieldLink RX4 121 (TX6 13).1 (TX6 13).2.1 (TX6 13).2.2.1 ∈ zTb := List.mem_filter.mpr ⟨List.mem_append_right _ (List.mem_of_getElem? (i := 116) (by decide +kernel)), by decide +kernel⟩
theorem zfX4_121 : zFld RX4 121 6 13 (.array .int) true RX6 := ⟨TX6, 15, tyX6, zcl_6, by decide, rfl, rfl, rfl, zw116⟩
theorem zw117 : Cond.fieldLink RX7 164 (TX6 13).1 (TX6 13).2.1 (TX6 13).2.2.1 ∈ zTb := List.mem_filter.mpr ⟨List.mem_append_right _ (List.mem_of_getElem? (i := 117) (by decide +kernel)), by decide +kernel⟩
theorem zfX7_164 : zFld RX7 164 6 13 (.array .int) true RX6 := ⟨TX6, 15, tyX6, zcl_6, by decide, rfl, rfl, rfl, zw117⟩
theorem zw118 : Cond.fieldLink RX6 46 (TX6 14).1 (TX6 14).2.1 (TX6 14).2.2.1 ∈ zTb := List.mem_filter.mpr ⟨List.mem_append_right _ (List.mem_of_getElem? (i := 118) (by decide +kernel)), by decide +kernel⟩
theorem zfX6_46 : zFld RX6 46 6 14 (.object "ClaimedTasks$Notes") true RX6 := ⟨TX6, 15, tyX6, zcl_6, by decide, rfl, rfl, rfl, zw118⟩
theorem zw119 : Cond.fieldLink RX4 18 (TX6 14).1 (TX6 14).2.1 (TX6 14).2.2.1 ∈ zTb := List.mem_filter.mpr ⟨List.mem_append_right _ (List.mem_of_getElem? (i := 119) (by decide +kernel)), by decide +kernel⟩
theorem zfX4_18 : zFld RX4 18 6 14 (.object "ClaimedTasks$Notes") true RX6 := ⟨TX6, 15, tyX6, zcl_6, by decide, rfl, rfl, rfl, zw119⟩
theorem zw120 : Cond.fieldLink RX7 180 (TX6 14).1 (TX6 14).2.1 (TX6 14).2.2.1 ∈ zTb := List.mem_filter.mpr ⟨List.mem_append_right _ (List.mem_of_getElem? (i := 120) (by decide +kernel)), by decide +kernel⟩
theorem zfX7_180 : zFld RX7 180 6 14 (.object "ClaimedTasks$Notes") true RX6 := ⟨TX6, 15, tyX6, zcl_6, by decide, rfl, rfl, rfl, zw120⟩
theorem zw161 : Cond.fieldLink RX1 11 (TX1 0).1 (TX1 0).2.1 (TX1 0).2.2.1 ∈ zTb := List.mem_filter.mpr ⟨List.mem_append_right _ (List.mem_of_getElem? (i := 161) (by decide +kernel)), by decide +kernel⟩
theorem zfX1_11 : zFld RX1 11 1 0 (.array (.object "ClaimedTasks$World")) true RX1 := ⟨TX1, 3, tyX1, zcl_1, by decide, rfl, rfl, rfl, zw161⟩
theorem zw162 : Cond.fieldLink RX1 18 (TX1 1).1 (TX1 1).2.1 (TX1 1).2.2.1 ∈ zTb := List.mem_filter.mpr ⟨List.mem_append_right _ (List.mem_of_getElem? (i := 162) (by decide +kernel)), by decide +kernel⟩
theorem zfX1_18 : zFld RX1 18 1 1 .int false RX1 := ⟨TX1, 3, tyX1, zcl_1, by decide, rfl, rfl, rfl, zw162⟩
theorem zw163 : Cond.fieldLink RX1 26 (TX1 2).1 (TX1 2).2.1 (TX1 2).2.2.1 ∈ zTb := List.mem_filter.mpr ⟨List.mem_append_right _ (List.mem_of_getElem? (i := 163) (by decide +kernel)), by decide +kernel⟩
theorem zfX1_26 : zFld RX1 26 1 2 .int false RX1 := ⟨TX1, 3, tyX1, zcl_1, by decide, rfl, rfl, rfl, zw163⟩
theorem zw164 : Cond.fieldLink RX7 234 (TX1 2).1 (TX1 2).2.1 (TX1 2).2.2.1 ∈ zTb := List.mem_filter.mpr ⟨List.mem_append_right _ (List.mem_of_getElem? (i := 164) (by decide +kernel)), by decide +kernel⟩
theorem zfX7_234 : zFld RX7 234 1 2 .int false RX1 := ⟨TX1, 3, tyX1, zcl_1, by decide, rfl, rfl, rfl, zw164⟩
theorem zw180 : Cond.fieldLink RX4 12 (TX4 0).1 (TX4 0).2.1 (TX4 0).2.2.1 ∈ zTb := List.mem_filter.mpr ⟨List.mem_append_right _ (List.mem_of_getElem? (i := 180) (by decide +kernel)), by decide +kernel⟩
theorem zfX4_12 : zFld RX4 12 4 0 (.object "ClaimedTasks$Notes") true RX4 := ⟨TX4, 1, tyX4, zcl_4, by decide, rfl, rfl, rfl, zw180⟩
theorem zw190 : Cond.fieldLink RX0 9 (TX0 0).1 (TX0 0).2.1 (TX0 0).2.2.1 ∈ zTb := List.mem_filter.mpr ⟨List.mem_append_right _ (List.mem_of_getElem? (i := 190) (by decide +kernel)), by decide +kernel⟩
theorem zfX0_9 : zFld RX0 9 0 0 (.object "ClaimedTasks$Stepper") true RX0 := ⟨TX0, 1, tyX0, zcl_0, by decide, rfl, rfl, rfl, zw190⟩
theorem zw200 : Cond.fieldLink RX3 9 (TX3 0).1 (TX3 0).2.1 (TX3 0).2.2.1 ∈ zTb := List.mem_filter.mpr ⟨List.mem_append_right _ (List.mem_of_getElem? (i := 200) (by decide +kernel)), by decide +kernel⟩
theorem zfX3_9 : zFld RX3 9 3 0 (.array .int) true RX3 := ⟨TX3, 3, tyX3, zcl_3, by decide, rfl, rfl, rfl, zw200⟩
theorem zw201 : Cond.fieldLink RX7 276 (TX3 0).1 (TX3 0).2.1 (TX3 0).2.2.1 ∈ zTb := List.mem_filter.mpr ⟨List.mem_append_right _ (List.mem_of_getElem? (i := 201) (by decide +kernel)), by decide +kernel⟩
theorem zfX7_276 : zFld RX7 276 3 0 (.array .int) true RX3 := ⟨TX3, 3, tyX3, zcl_3, by decide, rfl, rfl, rfl, zw201⟩
theorem zw202 : Cond.fieldLink RX3 63 (TX3 1).1 (TX3 1).2.1 (TX3 1).2.2.1 ∈ zTb := List.mem_filter.mpr ⟨List.mem_append_right _ (List.mem_of_getElem? (i := 202) (by decide +kernel)), by decide +kernel⟩
theorem zfX3_63 : zFld RX3 63 3 1 .int false RX3 := ⟨TX3, 3, tyX3, zcl_3, by decide, rfl, rfl, rfl, zw202⟩
theorem zw203 : Cond.fieldLink RX7 273 (TX3 1).1 (TX3 1).2.1 (TX3 1).2.2.1 ∈ zTb := List.mem_filter.mpr ⟨List.mem_append_right _ (List.mem_of_getElem? (i := 203) (by decide +kernel)), by decide +kernel⟩
theorem zfX7_273 : zFld RX7 273 3 1 .int false RX3 := ⟨TX3, 3, tyX3, zcl_3, by decide, rfl, rfl, rfl, zw203⟩
theorem zw204 : Cond.fieldLink RX3 15 (TX3 2).1 (TX3 2).2.1 (TX3 2).2.2.1 ∈ zTb := List.mem_filter.mpr ⟨List.mem_append_right _ (List.mem_of_getElem? (i := 204) (by decide +kernel)), by decide +kernel⟩
theorem zfX3_15 : zFld RX3 15 3 2 (.array .int) true RX3 := ⟨TX3, 3, tyX3, zcl_3, by decide, rfl, rfl, rfl, zw204⟩
theorem zw212 : Cond.fieldLink RX7 10 (TX7 0).1 (TX7 0).2.1 (TX7 0).2.2.1 ∈ zTb := List.mem_filter.mpr ⟨List.mem_append_right _ (List.mem_of_getElem? (i := 212) (by decide +kernel)), by decide +kernel⟩
theorem zfX7_10 : zFld RX7 10 7 0 (.object "ClaimedTasks$Text") true RX7 := ⟨TX7, 9, tyX7, zcl_7, by decide, rfl, rfl, rfl, zw212⟩
theorem zw213 : Cond.fieldLink RX7 19 (TX7 1).1 (TX7 1).2.1 (TX7 1).2.2.1 ∈ zTb := List.mem_filter.mpr ⟨List.mem_append_right _ (List.mem_of_getElem? (i := 213) (by decide +kernel)), by decide +kernel⟩
theorem zfX7_19 : zFld RX7 19 7 1 (.object "ClaimedTasks$World") true RX7 := ⟨TX7, 9, tyX7, zcl_7, by decide, rfl, rfl, rfl, zw213⟩
theorem zw214 : Cond.fieldLink RX7 23 (TX7 2).1 (TX7 2).2.1 (TX7 2).2.2.1 ∈ zTb := List.mem_filter.mpr ⟨List.mem_append_right _ (List.mem_of_getElem? (i := 214) (by decide +kernel)), by decide +kernel⟩
theorem zfX7_23 : zFld RX7 23 7 2 (.object "ClaimedTasks$World") true RX7 := ⟨TX7, 9, tyX7, zcl_7, by decide, rfl, rfl, rfl, zw214⟩
theorem zw215 : Cond.fieldLink RX7 29 (TX7 3).1 (TX7 3).2.1 (TX7 3).2.2.1 ∈ zTb := List.mem_filter.mpr ⟨List.mem_append_right _ (List.mem_of_getElem? (i := 215) (by decide +kernel)), by decide +kernel⟩
theorem zfX7_29 : zFld RX7 29 7 3 (.object "ClaimedTasks$History") true RX7 := ⟨TX7, 9, tyX7, zcl_7, by decide, rfl, rfl, rfl, zw215⟩
theorem zw216 : Cond.fieldLink RX7 33 (TX7 4).1 (TX7 4).2.1 (TX7 4).2.2.1 ∈ zTb := List.mem_filter.mpr ⟨List.mem_append_right _ (List.mem_of_getElem? (i := 216) (by decide +kernel)), by decide +kernel⟩
theorem zfX7_33 : zFld RX7 33 7 4 (.array (.object "ClaimedTasks$World")) true RX7 := ⟨TX7, 9, tyX7, zcl_7, by decide, rfl, rfl, rfl, zw216⟩
theorem zw217 : Cond.fieldLink RX7 37 (TX7 5).1 (TX7 5).2.1 (TX7 5).2.2.1 ∈ zTb := List.mem_filter.mpr ⟨List.mem_append_right _ (List.mem_of_getElem? (i := 217) (by decide +kernel)), by decide +kernel⟩
theorem zfX7_37 : zFld RX7 37 7 5 .int false RX7 := ⟨TX7, 9, tyX7, zcl_7, by decide, rfl, rfl, rfl, zw217⟩
theorem zw218 : Cond.fieldLink RX7 44 (TX7 6).1 (TX7 6).2.1 (TX7 6).2.2.1 ∈ zTb := List.mem_filter.mpr ⟨List.mem_append_right _ (List.mem_of_getElem? (i := 218) (by decide +kernel)), by decide +kernel⟩
theorem zfX7_44 : zFld RX7 44 7 6 (.object "ClaimedTasks$Stepper") true RX7 := ⟨TX7, 9, tyX7, zcl_7, by decide, rfl, rfl, rfl, zw218⟩
theorem zw219 : Cond.fieldLink RX7 53 (TX7 7).1 (TX7 7).2.1 (TX7 7).2.2.1 ∈ zTb := List.mem_filter.mpr ⟨List.mem_append_right _ (List.mem_of_getElem? (i := 219) (by decide +kernel)), by decide +kernel⟩
theorem zfX7_53 : zFld RX7 53 7 7 (.object "ClaimedTasks$Commands") true RX7 := ⟨TX7, 9, tyX7, zcl_7, by decide, rfl, rfl, rfl, zw219⟩
theorem zw220 : Cond.fieldLink RX7 60 (TX7 8).1 (TX7 8).2.1 (TX7 8).2.2.1 ∈ zTb := List.mem_filter.mpr ⟨List.mem_append_right _ (List.mem_of_getElem? (i := 220) (by decide +kernel)), by decide +kernel⟩
theorem zfX7_60 : zFld RX7 60 7 8 (.object "ClaimedTasks$Sharing") true RX7 := ⟨TX7, 9, tyX7, zcl_7, by decide, rfl, rfl, rfl, zw220⟩
theorem zw896 : Cond.fieldLink RX8 44 (TX8 0).1 (TX8 0).2.1 (TX8 0).2.2.1 ∈ zTb := List.mem_filter.mpr ⟨List.mem_append_right _ (List.mem_of_getElem? (i := 896) (by decide +kernel)), by decide +kernel⟩
theorem zfX8_44 : zFld RX8 44 8 0 .int false RX8 := ⟨TX8, 15, tyX8, zcl_8, by decide, rfl, rfl, rfl, zw896⟩
theorem zw897 : Cond.fieldLink RX8 7 (TX8 1).1 (TX8 1).2.1 (TX8 1).2.2.1 ∈ zTb := List.mem_filter.mpr ⟨List.mem_append_right _ (List.mem_of_getElem? (i := 897) (by decide +kernel)), by decide +kernel⟩
theorem zfX8_7 : zFld RX8 7 8 1 (.array .int) true RX8 := ⟨TX8, 15, tyX8, zcl_8, by decide, rfl, rfl, rfl, zw897⟩
theorem zw898 : Cond.fieldLink RX8 123 (TX8 2).1 (TX8 2).2.1 (TX8 2).2.2.1 ∈ zTb := List.mem_filter.mpr ⟨List.mem_append_right _ (List.mem_of_getElem? (i := 898) (by decide +kernel)), by decide +kernel⟩
theorem zfX8_123 : zFld RX8 123 8 2 .int false RX8 := ⟨TX8, 15, tyX8, zcl_8, by decide, rfl, rfl, rfl, zw898⟩
theorem zw899 : Cond.fieldLink RX8 130 (TX8 3).1 (TX8 3).2.1 (TX8 3).2.2.1 ∈ zTb := List.mem_filter.mpr ⟨List.mem_append_right _ (List.mem_of_getElem? (i := 899) (by decide +kernel)), by decide +kernel⟩
theorem zfX8_130 : zFld RX8 130 8 3 .int false RX8 := ⟨TX8, 15, tyX8, zcl_8, by decide, rfl, rfl, rfl, zw899⟩
theorem zw900 : Cond.fieldLink RX8 13 (TX8 4).1 (TX8 4).2.1 (TX8 4).2.2.1 ∈ zTb := List.mem_filter.mpr ⟨List.mem_append_right _ (List.mem_of_getElem? (i := 900) (by decide +kernel)), by decide +kernel⟩
theorem zfX8_13 : zFld RX8 13 8 4 (.array .int) true RX8 := ⟨TX8, 15, tyX8, zcl_8, by decide, rfl, rfl, rfl, zw900⟩
theorem zw901 : Cond.fieldLink RX8 16 (TX8 5).1 (TX8 5).2.1 (TX8 5).2.2.1 ∈ zTb := List.mem_filter.mpr ⟨List.mem_append_right _ (List.mem_of_getElem? (i := 901) (by decide +kernel)), by decide +kernel⟩
theorem zfX8_16 : zFld RX8 16 8 5 (.array .int) true RX8 := ⟨TX8, 15, tyX8, zcl_8, by decide, rfl, rfl, rfl, zw901⟩
theorem zw902 : Cond.fieldLink RX8 19 (TX8 6).1 (TX8 6).2.1 (TX8 6).2.2.1 ∈ zTb := List.mem_filter.mpr ⟨List.mem_append_right _ (List.mem_of_getElem? (i := 902) (by decide +kernel)), by decide +kernel⟩
theorem zfX8_19 : zFld RX8 19 8 6 (.array .int) true RX8 := ⟨TX8, 15, tyX8, zcl_8, by decide, rfl, rfl, rfl, zw902⟩
theorem zw903 : Cond.fieldLink RX8 22 (TX8 7).1 (TX8 7).2.1 (TX8 7).2.2.1 ∈ zTb := List.mem_filter.mpr ⟨List.mem_append_right _ (List.mem_of_getElem? (i := 903) (by decide +kernel)), by decide +kernel⟩
theorem zfX8_22 : zFld RX8 22 8 7 (.array .int) true RX8 := ⟨TX8, 15, tyX8, zcl_8, by decide, rfl, rfl, rfl, zw903⟩
theorem zw904 : Cond.fieldLink RX8 25 (TX8 8).1 (TX8 8).2.1 (TX8 8).2.2.1 ∈ zTb := List.mem_filter.mpr ⟨List.mem_append_right _ (List.mem_of_getElem? (i := 904) (by decide +kernel)), by decide +kernel⟩
theorem zfX8_25 : zFld RX8 25 8 8 (.array .int) true RX8 := ⟨TX8, 15, tyX8, zcl_8, by decide, rfl, rfl, rfl, zw904⟩
theorem zw905 : Cond.fieldLink RX8 50 (TX8 9).1 (TX8 9).2.1 (TX8 9).2.2.1 ∈ zTb := List.mem_filter.mpr ⟨List.mem_append_right _ (List.mem_of_getElem? (i := 905) (by decide +kernel)), by decide +kernel⟩
theorem zfX8_50 : zFld RX8 50 8 9 .int false RX8 := ⟨TX8, 15, tyX8, zcl_8, by decide, rfl, rfl, rfl, zw905⟩
theorem zw906 : Cond.fieldLink RX8 28 (TX8 10).1 (TX8 10).2.1 (TX8 10).2.2.1 ∈ zTb := List.mem_filter.mpr ⟨List.mem_append_right _ (List.mem_of_getElem? (i := 906) (by decide +kernel)), by decide +kernel⟩
theorem zfX8_28 : zFld RX8 28 8 10 (.array .int) true RX8 := ⟨TX8, 15, tyX8, zcl_8, by decide, rfl, rfl, rfl, zw906⟩
theorem zw907 : Cond.fieldLink RX8 31 (TX8 11).1 (TX8 11).2.1 (TX8 11).2.2.1 ∈ zTb := List.mem_filter.mpr ⟨List.mem_append_right _ (List.mem_of_getElem? (i := 907) (by decide +kernel)), by decide +kernel⟩
theorem zfX8_31 : zFld RX8 31 8 11 (.array .boolean) true RX8 := ⟨TX8, 15, tyX8, zcl_8, by decide, rfl, rfl, rfl, zw907⟩
theorem zw908 : Cond.fieldLink RX8 35 (TX8 12).1 (TX8 12).2.1 (TX8 12).2.2.1 ∈ zTb := List.mem_filter.mpr ⟨List.mem_append_right _ (List.mem_of_getElem? (i := 908) (by decide +kernel)), by decide +kernel⟩
theorem zfX8_35 : zFld RX8 35 8 12 (.array .int) true RX8 := ⟨TX8, 15, tyX8, zcl_8, by decide, rfl, rfl, rfl, zw908⟩
theorem zw909 : Cond.fieldLink RX8 38 (TX8 13).1 (TX8 13).2.1 (TX8 13).2.2.1 ∈ zTb := List.mem_filter.mpr ⟨List.mem_append_right _ (List.mem_of_getElem? (i := 909) (by decide +kernel)), by decide +kernel⟩
theorem zfX8_38 : zFld RX8 38 8 13 (.array .int) true RX8 := ⟨TX8, 15, tyX8, zcl_8, by decide, rfl, rfl, rfl, zw909⟩
theorem zw910 : Cond.fieldLink RX8 41 (TX8 14).1 (TX8 14).2.1 (TX8 14).2.2.1 ∈ zTb := List.mem_filter.mpr ⟨List.mem_append_right _ (List.mem_of_getElem? (i := 910) (by decide +kernel)), by decide +kernel⟩
theorem zfX8_41 : zFld RX8 41 8 14 (.array .int) true RX8 := ⟨TX8, 15, tyX8, zcl_8, by decide, rfl, rfl, rfl, zw910⟩
theorem zw31 : Cond.code mX5_init.1 mX5_init.2.1 mX5_init.2.2.1 mX5_init.2.2.2.1 ∈ zTb := List.mem_filter.mpr ⟨List.mem_append_right _ (List.mem_of_getElem? (i := 31) (by decide +kernel)), by decide +kernel⟩
theorem zw2 : Cond.initialized RX5 ∈ zTb := List.mem_filter.mpr ⟨List.mem_append_right _ (List.mem_of_getElem? (i := 2) (by decide +kernel)), by decide +kernel⟩
theorem zn29 : Cond.methodLinkNest RX7 9 mX5_init.1 "ClaimedTasks" ∈ zNs := List.mem_filter.mpr ⟨List.mem_append_right _ (List.mem_of_getElem? (i := 29) (by decide +kernel)), by decide +kernel⟩
theorem zkX7_9 : zLk RX7 9 mX5_init 0 := ⟨Or.inr ⟨"ClaimedTasks", zn29⟩, zw31, zw2, by decide +kernel, by decide +kernel, by decide +kernel⟩
theorem zw46 : Cond.code mX6_init.1 mX6_init.2.1 mX6_init.2.2.1 mX6_init.2.2.2.1 ∈ zTb := List.mem_filter.mpr ⟨List.mem_append_right _ (List.mem_of_getElem? (i := 46) (by decide +kernel)), by decide +kernel⟩
theorem zw3 : Cond.initialized RX6 ∈ zTb := List.mem_filter.mpr ⟨List.mem_append_right _ (List.mem_of_getElem? (i := 3) (by decide +kernel)), by decide +kernel⟩
theorem zn44 : Cond.methodLinkNest RX7 18 mX6_init.1 "ClaimedTasks" ∈ zNs := List.mem_filter.mpr ⟨List.mem_append_right _ (List.mem_of_getElem? (i := 44) (by decide +kernel)), by decide +kernel⟩
theorem zkX7_18 : zLk RX7 18 mX6_init 0 := ⟨Or.inr ⟨"ClaimedTasks", zn44⟩, zw46, zw3, by decide +kernel, by decide +kernel, by decide +kernel⟩
theorem zw156 : Cond.code mX1_init.1 mX1_init.2.1 mX1_init.2.2.1 mX1_init.2.2.2.1 ∈ zTb := List.mem_filter.mpr ⟨List.mem_append_right _ (List.mem_of_getElem? (i := 156) (by decide +kernel)), by decide +kernel⟩
theorem zw5 : Cond.initialized RX1 ∈ zTb := List.mem_filter.mpr ⟨List.mem_append_right _ (List.mem_of_getElem? (i := 5) (by decide +kernel)), by decide +kernel⟩
theorem zw154 : Cond.methodLink RX7 28 mX1_init.1 ∈ zTb := List.mem_filter.mpr ⟨List.mem_append_right _ (List.mem_of_getElem? (i := 154) (by decide +kernel)), by decide +kernel⟩
theorem zkX7_28 : zLk RX7 28 mX1_init 0 := ⟨Or.inl zw154, zw156, zw5, by decide +kernel, by decide +kernel, by decide +kernel⟩
theorem zw176 : Cond.code mX4_init.1 mX4_init.2.1 mX4_init.2.2.1 mX4_init.2.2.2.1 ∈ zTb := List.mem_filter.mpr ⟨List.mem_append_right _ (List.mem_of_getElem? (i := 176) (by decide +kernel)), by decide +kernel⟩
theorem zw6 : Cond.initialized RX4 ∈ zTb := List.mem_filter.mpr ⟨List.mem_append_right _ (List.mem_of_getElem? (i := 6) (by decide +kernel)), by decide +kernel⟩
theorem zn174 : Cond.methodLinkNest RX7 43 mX4_init.1 "ClaimedTasks" ∈ zNs := List.mem_filter.mpr ⟨List.mem_append_right _ (List.mem_of_getElem? (i := 174) (by decide +kernel)), by decide +kernel⟩
theorem zkX7_43 : zLk RX7 43 mX4_init 0 := ⟨Or.inr ⟨"ClaimedTasks", zn174⟩, zw176, zw6, by decide +kernel, by decide +kernel, by decide +kernel⟩
theorem zw188 : Cond.code mX0_init.1 mX0_init.2.1 mX0_init.2.2.1 mX0_init.2.2.2.1 ∈ zTb := List.mem_filter.mpr ⟨List.mem_append_right _ (List.mem_of_getElem? (i := 188) (by decide +kernel)), by decide +kernel⟩
theorem zw7 : Cond.initialized RX0 ∈ zTb := List.mem_filter.mpr ⟨List.mem_append_right _ (List.mem_of_getElem? (i := 7) (by decide +kernel)), by decide +kernel⟩
theorem zw186 : Cond.methodLink RX7 50 mX0_init.1 ∈ zTb := List.mem_filter.mpr ⟨List.mem_append_right _ (List.mem_of_getElem? (i := 186) (by decide +kernel)), by decide +kernel⟩
theorem zkX7_50 : zLk RX7 50 mX0_init 1 := ⟨Or.inl zw186, zw188, zw7, by decide +kernel, by decide +kernel, by decide +kernel⟩
theorem zw198 : Cond.code mX3_init.1 mX3_init.2.1 mX3_init.2.2.1 mX3_init.2.2.2.1 ∈ zTb := List.mem_filter.mpr ⟨List.mem_append_right _ (List.mem_of_getElem? (i := 198) (by decide +kernel)), by decide +kernel⟩
theorem zw8 : Cond.initialized RX3 ∈ zTb := List.mem_filter.mpr ⟨List.mem_append_right _ (List.mem_of_getElem? (i := 8) (by decide +kernel)), by decide +kernel⟩
theorem zn196 : Cond.methodLinkNest RX7 59 mX3_init.1 "ClaimedTasks" ∈ zNs := List.mem_filter.mpr ⟨List.mem_append_right _ (List.mem_of_getElem? (i := 196) (by decide +kernel)), by decide +kernel⟩
theorem zkX7_59 : zLk RX7 59 mX3_init 0 := ⟨Or.inr ⟨"ClaimedTasks", zn196⟩, zw198, zw8, by decide +kernel, by decide +kernel, by decide +kernel⟩
theorem zw364 : Cond.code mX7_requireBetween.1 mX7_requireBetween.2.1 mX7_requireBetween.2.2.1 mX7_requireBetween.2.2.2.1 ∈ zTb := List.mem_filter.mpr ⟨List.mem_append_right _ (List.mem_of_getElem? (i := 364) (by decide +kernel)), by decide +kernel⟩
theorem zw1 : Cond.initialized RX7 ∈ zTb := List.mem_filter.mpr ⟨List.mem_append_right _ (List.mem_of_getElem? (i := 1) (by decide +kernel)), by decide +kernel⟩
theorem zw362 : Cond.methodLink RX7 64 mX7_requireBetween.1 ∈ zTb := List.mem_filter.mpr ⟨List.mem_append_right _ (List.mem_of_getElem? (i := 362) (by decide +kernel)), by decide +kernel⟩
theorem zkX7_64 : zLk RX7 64 mX7_requireBetween 3 := ⟨Or.inl zw362, zw364, zw1, by decide +kernel, by decide +kernel, by decide +kernel⟩
theorem zw439 : Cond.code mX5_hasRoom.1 mX5_hasRoom.2.1 mX5_hasRoom.2.2.1 mX5_hasRoom.2.2.2.1 ∈ zTb := List.mem_filter.mpr ⟨List.mem_append_right _ (List.mem_of_getElem? (i := 439) (by decide +kernel)), by decide +kernel⟩
theorem zw436 : Cond.methodLink RX7 68 mX5_hasRoom.1 ∈ zTb := List.mem_filter.mpr ⟨List.mem_append_right _ (List.mem_of_getElem? (i := 436) (by decide +kernel)), by decide +kernel⟩
theorem zkX7_68 : zLk RX7 68 mX5_hasRoom 0 := ⟨Or.inl zw436, zw439, zw2, by decide +kernel, by decide +kernel, by decide +kernel⟩
theorem zw442 : Cond.code mX7_requireState.1 mX7_requireState.2.1 mX7_requireState.2.2.1 mX7_requireState.2.2.2.1 ∈ zTb := List.mem_filter.mpr ⟨List.mem_append_right _ (List.mem_of_getElem? (i := 442) (by decide +kernel)), by decide +kernel⟩
theorem zw440 : Cond.methodLink RX7 72 mX7_requireState.1 ∈ zTb := List.mem_filter.mpr ⟨List.mem_append_right _ (List.mem_of_getElem? (i := 440) (by decide +kernel)), by decide +kernel⟩
theorem zkX7_72 : zLk RX7 72 mX7_requireState 1 := ⟨Or.inl zw440, zw442, zw1, by decide +kernel, by decide +kernel, by decide +kernel⟩
theorem zw462 : Cond.code mX5_add.1 mX5_add.2.1 mX5_add.2.2.1 mX5_add.2.2.2.1 ∈ zTb := List.mem_filter.mpr ⟨List.mem_append_right _ (List.mem_of_getElem? (i := 462) (by decide +kernel)), by decide +kernel⟩
theorem zw459 : Cond.methodLink RX7 76 mX5_add.1 ∈ zTb := List.mem_filter.mpr ⟨List.mem_append_right _ (List.mem_of_getElem? (i := 459) (by decide +kernel)), by decide +kernel⟩
theorem zkX7_76 : zLk RX7 76 mX5_add 1 := ⟨Or.inl zw459, zw462, zw2, by decide +kernel, by decide +kernel, by decide +kernel⟩
theorem zw251 : Cond.code mX5_readInto.1 mX5_readInto.2.1 mX5_readInto.2.2.1 mX5_readInto.2.2.2.1 ∈ zTb := List.mem_filter.mpr ⟨List.mem_append_right _ (List.mem_of_getElem? (i := 251) (by decide +kernel)), by decide +kernel⟩
theorem zw248 : Cond.methodLink RX7 83 mX5_readInto.1 ∈ zTb := List.mem_filter.mpr ⟨List.mem_append_right _ (List.mem_of_getElem? (i := 248) (by decide +kernel)), by decide +kernel⟩
theorem zkX7_83 : zLk RX7 83 mX5_readInto 1 := ⟨Or.inl zw248, zw251, zw2, by decide +kernel, by decide +kernel, by decide +kernel⟩
theorem zw340 : Cond.code mX6_copyFrom.1 mX6_copyFrom.2.1 mX6_copyFrom.2.2.1 mX6_copyFrom.2.2.2.1 ∈ zTb := List.mem_filter.mpr ⟨List.mem_append_right _ (List.mem_of_getElem? (i := 340) (by decide +kernel)), by decide +kernel⟩
theorem zw337 : Cond.methodLink RX7 87 mX6_copyFrom.1 ∈ zTb := List.mem_filter.mpr ⟨List.mem_append_right _ (List.mem_of_getElem? (i := 337) (by decide +kernel)), by decide +kernel⟩
theorem zkX7_87 : zLk RX7 87 mX6_copyFrom 1 := ⟨Or.inl zw337, zw340, zw3, by decide +kernel, by decide +kernel, by decide +kernel⟩
theorem zw474 : Cond.code mX1_forget.1 mX1_forget.2.1 mX1_forget.2.2.1 mX1_forget.2.2.2.1 ∈ zTb := List.mem_filter.mpr ⟨List.mem_append_right _ (List.mem_of_getElem? (i := 474) (by decide +kernel)), by decide +kernel⟩
theorem zw471 : Cond.methodLink RX7 91 mX1_forget.1 ∈ zTb := List.mem_filter.mpr ⟨List.mem_append_right _ (List.mem_of_getElem? (i := 471) (by decide +kernel)), by decide +kernel⟩
theorem zkX7_91 : zLk RX7 91 mX1_forget 0 := ⟨Or.inl zw471, zw474, zw5, by decide +kernel, by decide +kernel, by decide +kernel⟩
theorem zw485 : Cond.code mX6_finishedTasks.1 mX6_finishedTasks.2.1 mX6_finishedTasks.2.2.1 mX6_finishedTasks.2.2.2.1 ∈ zTb := List.mem_filter.mpr ⟨List.mem_append_right _ (List.mem_of_getElem? (i := 485) (by decide +kernel)), by decide +kernel⟩
theorem zw482 : Cond.methodLink RX7 106 mX6_finishedTasks.1 ∈ zTb := List.mem_filter.mpr ⟨List.mem_append_right _ (List.mem_of_getElem? (i := 482) (by decide +kernel)), by decide +kernel⟩
theorem zkX7_106 : zLk RX7 106 mX6_finishedTasks 0 := ⟨Or.inl zw482, zw485, zw3, by decide +kernel, by decide +kernel, by decide +kernel⟩
theorem zw493 : Cond.code mX6_allMoves.1 mX6_allMoves.2.1 mX6_allMoves.2.2.1 mX6_allMoves.2.2.2.1 ∈ zTb := List.mem_filter.mpr ⟨List.mem_append_right _ (List.mem_of_getElem? (i := 493) (by decide +kernel)), by decide +kernel⟩
theorem zw490 : Cond.methodLink RX7 110 mX6_allMoves.1 ∈ zTb := List.mem_filter.mpr ⟨List.mem_append_right _ (List.mem_of_getElem? (i := 490) (by decide +kernel)), by decide +kernel⟩
theorem zkX7_110 : zLk RX7 110 mX6_allMoves 0 := ⟨Or.inl zw490, zw493, zw3, by decide +kernel, by decide +kernel, by decide +kernel⟩
theorem zw500 : Cond.code mX6_allWasted.1 mX6_allWasted.2.1 mX6_allWasted.2.2.1 mX6_allWasted.2.2.2.1 ∈ zTb := List.mem_filter.mpr ⟨List.mem_append_right _ (List.mem_of_getElem? (i := 500) (by decide +kernel)), by decide +kernel⟩
theorem zw497 : Cond.methodLink RX7 113 mX6_allWasted.1 ∈ zTb := List.mem_filter.mpr ⟨List.mem_append_right _ (List.mem_of_getElem? (i := 497) (by decide +kernel)), by decide +kernel⟩
theorem zkX7_113 : zLk RX7 113 mX6_allWasted 0 := ⟨Or.inl zw497, zw500, zw3, by decide +kernel, by decide +kernel, by decide +kernel⟩
theorem zw512 : Cond.code mX6_hasAgent.1 mX6_hasAgent.2.1 mX6_hasAgent.2.2.1 mX6_hasAgent.2.2.2.1 ∈ zTb := List.mem_filter.mpr ⟨List.mem_append_right _ (List.mem_of_getElem? (i := 512) (by decide +kernel)), by decide +kernel⟩
theorem zw509 : Cond.methodLink RX7 119 mX6_hasAgent.1 ∈ zTb := List.mem_filter.mpr ⟨List.mem_append_right _ (List.mem_of_getElem? (i := 509) (by decide +kernel)), by decide +kernel⟩
theorem zkX7_119 : zLk RX7 119 mX6_hasAgent 1 := ⟨Or.inl zw509, zw512, zw3, by decide +kernel, by decide +kernel, by decide +kernel⟩
theorem zw515 : Cond.code mX7_requireIndex.1 mX7_requireIndex.2.1 mX7_requireIndex.2.2.1 mX7_requireIndex.2.2.2.1 ∈ zTb := List.mem_filter.mpr ⟨List.mem_append_right _ (List.mem_of_getElem? (i := 515) (by decide +kernel)), by decide +kernel⟩
theorem zw513 : Cond.methodLink RX7 123 mX7_requireIndex.1 ∈ zTb := List.mem_filter.mpr ⟨List.mem_append_right _ (List.mem_of_getElem? (i := 513) (by decide +kernel)), by decide +kernel⟩
theorem zkX7_123 : zLk RX7 123 mX7_requireIndex 1 := ⟨Or.inl zw513, zw515, zw1, by decide +kernel, by decide +kernel, by decide +kernel⟩
theorem zw326 : Cond.code mX6_isOn.1 mX6_isOn.2.1 mX6_isOn.2.2.1 mX6_isOn.2.2.2.1 ∈ zTb := List.mem_filter.mpr ⟨List.mem_append_right _ (List.mem_of_getElem? (i := 326) (by decide +kernel)), by decide +kernel⟩
theorem zw532 : Cond.methodLink RX7 136 mX6_isOn.1 ∈ zTb := List.mem_filter.mpr ⟨List.mem_append_right _ (List.mem_of_getElem? (i := 532) (by decide +kernel)), by decide +kernel⟩
theorem zkX7_136 : zLk RX7 136 mX6_isOn 1 := ⟨Or.inl zw532, zw326, zw3, by decide +kernel, by decide +kernel, by decide +kernel⟩
theorem zw536 : Cond.code mX6_ownTask.1 mX6_ownTask.2.1 mX6_ownTask.2.2.1 mX6_ownTask.2.2.2.1 ∈ zTb := List.mem_filter.mpr ⟨List.mem_append_right _ (List.mem_of_getElem? (i := 536) (by decide +kernel)), by decide +kernel⟩
theorem zw533 : Cond.methodLink RX7 139 mX6_ownTask.1 ∈ zTb := List.mem_filter.mpr ⟨List.mem_append_right _ (List.mem_of_getElem? (i := 533) (by decide +kernel)), by decide +kernel⟩
theorem zkX7_139 : zLk RX7 139 mX6_ownTask 1 := ⟨Or.inl zw533, zw536, zw3, by decide +kernel, by decide +kernel, by decide +kernel⟩
theorem zw318 : Cond.code mX6_heardBy.1 mX6_heardBy.2.1 mX6_heardBy.2.2.1 mX6_heardBy.2.2.2.1 ∈ zTb := List.mem_filter.mpr ⟨List.mem_append_right _ (List.mem_of_getElem? (i := 318) (by decide +kernel)), by decide +kernel⟩
theorem zw552 : Cond.methodLink RX7 149 mX6_heardBy.1 ∈ zTb := List.mem_filter.mpr ⟨List.mem_append_right _ (List.mem_of_getElem? (i := 552) (by decide +kernel)), by decide +kernel⟩
theorem zkX7_149 : zLk RX7 149 mX6_heardBy 1 := ⟨Or.inl zw552, zw318, zw3, by decide +kernel, by decide +kernel, by decide +kernel⟩
theorem zw563 : Cond.code mX6_hasTask.1 mX6_hasTask.2.1 mX6_hasTask.2.2.1 mX6_hasTask.2.2.2.1 ∈ zTb := List.mem_filter.mpr ⟨List.mem_append_right _ (List.mem_of_getElem? (i := 563) (by decide +kernel)), by decide +kernel⟩
theorem zw560 : Cond.methodLink RX7 152 mX6_hasTask.1 ∈ zTb := List.mem_filter.mpr ⟨List.mem_append_right _ (List.mem_of_getElem? (i := 560) (by decide +kernel)), by decide +kernel⟩
theorem zkX7_152 : zLk RX7 152 mX6_hasTask 1 := ⟨Or.inl zw560, zw563, zw3, by decide +kernel, by decide +kernel, by decide +kernel⟩
theorem zw489 : Cond.code mX6_isFinished.1 mX6_isFinished.2.1 mX6_isFinished.2.2.1 mX6_isFinished.2.2.2.1 ∈ zTb := List.mem_filter.mpr ⟨List.mem_append_right _ (List.mem_of_getElem? (i := 489) (by decide +kernel)), by decide +kernel⟩
theorem zw564 : Cond.methodLink RX7 167 mX6_isFinished.1 ∈ zTb := List.mem_filter.mpr ⟨List.mem_append_right _ (List.mem_of_getElem? (i := 564) (by decide +kernel)), by decide +kernel⟩
theorem zkX7_167 : zLk RX7 167 mX6_isFinished 1 := ⟨Or.inl zw564, zw489, zw3, by decide +kernel, by decide +kernel, by decide +kernel⟩
theorem zw568 : Cond.code mX6_knowers.1 mX6_knowers.2.1 mX6_knowers.2.2.1 mX6_knowers.2.2.2.1 ∈ zTb := List.mem_filter.mpr ⟨List.mem_append_right _ (List.mem_of_getElem? (i := 568) (by decide +kernel)), by decide +kernel⟩
theorem zw565 : Cond.methodLink RX7 170 mX6_knowers.1 ∈ zTb := List.mem_filter.mpr ⟨List.mem_append_right _ (List.mem_of_getElem? (i := 565) (by decide +kernel)), by decide +kernel⟩
theorem zkX7_170 : zLk RX7 170 mX6_knowers 1 := ⟨Or.inl zw565, zw568, zw3, by decide +kernel, by decide +kernel, by decide +kernel⟩
theorem zw572 : Cond.code mX6_claimants.1 mX6_claimants.2.1 mX6_claimants.2.2.1 mX6_claimants.2.2.2.1 ∈ zTb := List.mem_filter.mpr ⟨List.mem_append_right _ (List.mem_of_getElem? (i := 572) (by decide +kernel)), by decide +kernel⟩
theorem zw569 : Cond.methodLink RX7 173 mX6_claimants.1 ∈ zTb := List.mem_filter.mpr ⟨List.mem_append_right _ (List.mem_of_getElem? (i := 569) (by decide +kernel)), by decide +kernel⟩
theorem zkX7_173 : zLk RX7 173 mX6_claimants 1 := ⟨Or.inl zw569, zw572, zw3, by decide +kernel, by decide +kernel, by decide +kernel⟩
theorem zw543 : Cond.code mX7_noteIndex.1 mX7_noteIndex.2.1 mX7_noteIndex.2.2.1 mX7_noteIndex.2.2.2.1 ∈ zTb := List.mem_filter.mpr ⟨List.mem_append_right _ (List.mem_of_getElem? (i := 543) (by decide +kernel)), by decide +kernel⟩
theorem zw580 : Cond.methodLink RX7 176 mX7_noteIndex.1 ∈ zTb := List.mem_filter.mpr ⟨List.mem_append_right _ (List.mem_of_getElem? (i := 580) (by decide +kernel)), by decide +kernel⟩
theorem zkX7_176 : zLk RX7 176 mX7_noteIndex 2 := ⟨Or.inl zw580, zw543, zw1, by decide +kernel, by decide +kernel, by decide +kernel⟩
theorem zw591 : Cond.code mX1_remember.1 mX1_remember.2.1 mX1_remember.2.2.1 mX1_remember.2.2.2.1 ∈ zTb := List.mem_filter.mpr ⟨List.mem_append_right _ (List.mem_of_getElem? (i := 591) (by decide +kernel)), by decide +kernel⟩
theorem zw588 : Cond.methodLink RX7 198 mX1_remember.1 ∈ zTb := List.mem_filter.mpr ⟨List.mem_append_right _ (List.mem_of_getElem? (i := 588) (by decide +kernel)), by decide +kernel⟩
theorem zkX7_198 : zLk RX7 198 mX1_remember 1 := ⟨Or.inl zw588, zw591, zw5, by decide +kernel, by decide +kernel, by decide +kernel⟩
theorem zw597 : Cond.code mX4_makeSteps.1 mX4_makeSteps.2.1 mX4_makeSteps.2.2.1 mX4_makeSteps.2.2.2.1 ∈ zTb := List.mem_filter.mpr ⟨List.mem_append_right _ (List.mem_of_getElem? (i := 597) (by decide +kernel)), by decide +kernel⟩
theorem zw594 : Cond.methodLink RX7 201 mX4_makeSteps.1 ∈ zTb := List.mem_filter.mpr ⟨List.mem_append_right _ (List.mem_of_getElem? (i := 594) (by decide +kernel)), by decide +kernel⟩
theorem zkX7_201 : zLk RX7 201 mX4_makeSteps 2 := ⟨Or.inl zw594, zw597, zw6, by decide +kernel, by decide +kernel, by decide +kernel⟩
theorem zw329 : Cond.code mX7_distanceOf.1 mX7_distanceOf.2.1 mX7_distanceOf.2.2.1 mX7_distanceOf.2.2.2.1 ∈ zTb := List.mem_filter.mpr ⟨List.mem_append_right _ (List.mem_of_getElem? (i := 329) (by decide +kernel)), by decide +kernel⟩
theorem zw665 : Cond.methodLink RX7 205 mX7_distanceOf.1 ∈ zTb := List.mem_filter.mpr ⟨List.mem_append_right _ (List.mem_of_getElem? (i := 665) (by decide +kernel)), by decide +kernel⟩
theorem zkX7_205 : zLk RX7 205 mX7_distanceOf 4 := ⟨Or.inl zw665, zw329, zw1, by decide +kernel, by decide +kernel, by decide +kernel⟩
theorem zw669 : Cond.code mX6_placeAgent.1 mX6_placeAgent.2.1 mX6_placeAgent.2.2.1 mX6_placeAgent.2.2.2.1 ∈ zTb := List.mem_filter.mpr ⟨List.mem_append_right _ (List.mem_of_getElem? (i := 669) (by decide +kernel)), by decide +kernel⟩
theorem zw666 : Cond.methodLink RX7 209 mX6_placeAgent.1 ∈ zTb := List.mem_filter.mpr ⟨List.mem_append_right _ (List.mem_of_getElem? (i := 666) (by decide +kernel)), by decide +kernel⟩
theorem zkX7_209 : zLk RX7 209 mX6_placeAgent 3 := ⟨Or.inl zw666, zw669, zw3, by decide +kernel, by decide +kernel, by decide +kernel⟩
theorem zw680 : Cond.code mX6_switchAgent.1 mX6_switchAgent.2.1 mX6_switchAgent.2.2.1 mX6_switchAgent.2.2.2.1 ∈ zTb := List.mem_filter.mpr ⟨List.mem_append_right _ (List.mem_of_getElem? (i := 680) (by decide +kernel)), by decide +kernel⟩
theorem zw677 : Cond.methodLink RX7 212 mX6_switchAgent.1 ∈ zTb := List.mem_filter.mpr ⟨List.mem_append_right _ (List.mem_of_getElem? (i := 677) (by decide +kernel)), by decide +kernel⟩
theorem zkX7_212 : zLk RX7 212 mX6_switchAgent 1 := ⟨Or.inl zw677, zw680, zw3, by decide +kernel, by decide +kernel, by decide +kernel⟩
theorem zw683 : Cond.code mJ6_bitCount_0f7a4.1 mJ6_bitCount_0f7a4.2.1 mJ6_bitCount_0f7a4.2.2.1 mJ6_bitCount_0f7a4.2.2.2.1 ∈ zTb := List.mem_filter.mpr ⟨List.mem_append_right _ (List.mem_of_getElem? (i := 683) (by decide +kernel)), by decide +kernel⟩
theorem zw18 : Cond.initialized RJ6 ∈ zTb := List.mem_filter.mpr ⟨List.mem_append_right _ (List.mem_of_getElem? (i := 18) (by decide +kernel)), by decide +kernel⟩
theorem zw681 : Cond.methodLink RX7 215 mJ6_bitCount_0f7a4.1 ∈ zTb := List.mem_filter.mpr ⟨List.mem_append_right _ (List.mem_of_getElem? (i := 681) (by decide +kernel)), by decide +kernel⟩
theorem zkX7_215 : zLk RX7 215 mJ6_bitCount_0f7a4 1 := ⟨Or.inl zw681, zw683, zw18, by decide +kernel, by decide +kernel, by decide +kernel⟩
theorem zw367 : Cond.code mX7_requireArgument.1 mX7_requireArgument.2.1 mX7_requireArgument.2.2.1 mX7_requireArgument.2.2.2.1 ∈ zTb := List.mem_filter.mpr ⟨List.mem_append_right _ (List.mem_of_getElem? (i := 367) (by decide +kernel)), by decide +kernel⟩
theorem zw365 : Cond.methodLink RX7 220 mX7_requireArgument.1 ∈ zTb := List.mem_filter.mpr ⟨List.mem_append_right _ (List.mem_of_getElem? (i := 365) (by decide +kernel)), by decide +kernel⟩
theorem zkX7_220 : zLk RX7 220 mX7_requireArgument 1 := ⟨Or.inl zw365, zw367, zw1, by decide +kernel, by decide +kernel, by decide +kernel⟩
theorem zw697 : Cond.code mX6_canPassClaim.1 mX6_canPassClaim.2.1 mX6_canPassClaim.2.2.1 mX6_canPassClaim.2.2.2.1 ∈ zTb := List.mem_filter.mpr ⟨List.mem_append_right _ (List.mem_of_getElem? (i := 697) (by decide +kernel)), by decide +kernel⟩
theorem zw694 : Cond.methodLink RX7 223 mX6_canPassClaim.1 ∈ zTb := List.mem_filter.mpr ⟨List.mem_append_right _ (List.mem_of_getElem? (i := 694) (by decide +kernel)), by decide +kernel⟩
theorem zkX7_223 : zLk RX7 223 mX6_canPassClaim 2 := ⟨Or.inl zw694, zw697, zw3, by decide +kernel, by decide +kernel, by decide +kernel⟩
theorem zw702 : Cond.code mX6_passClaim.1 mX6_passClaim.2.1 mX6_passClaim.2.2.1 mX6_passClaim.2.2.2.1 ∈ zTb := List.mem_filter.mpr ⟨List.mem_append_right _ (List.mem_of_getElem? (i := 702) (by decide +kernel)), by decide +kernel⟩
theorem zw699 : Cond.methodLink RX7 227 mX6_passClaim.1 ∈ zTb := List.mem_filter.mpr ⟨List.mem_append_right _ (List.mem_of_getElem? (i := 699) (by decide +kernel)), by decide +kernel⟩
theorem zkX7_227 : zLk RX7 227 mX6_passClaim 2 := ⟨Or.inl zw699, zw702, zw3, by decide +kernel, by decide +kernel, by decide +kernel⟩
theorem zw638 : Cond.code mX6_dropClaims.1 mX6_dropClaims.2.1 mX6_dropClaims.2.2.1 mX6_dropClaims.2.2.2.1 ∈ zTb := List.mem_filter.mpr ⟨List.mem_append_right _ (List.mem_of_getElem? (i := 638) (by decide +kernel)), by decide +kernel⟩
theorem zw712 : Cond.methodLink RX7 231 mX6_dropClaims.1 ∈ zTb := List.mem_filter.mpr ⟨List.mem_append_right _ (List.mem_of_getElem? (i := 712) (by decide +kernel)), by decide +kernel⟩
theorem zkX7_231 : zLk RX7 231 mX6_dropClaims 1 := ⟨Or.inl zw712, zw638, zw3, by decide +kernel, by decide +kernel, by decide +kernel⟩
theorem zw730 : Cond.code mX1_takeBack.1 mX1_takeBack.2.1 mX1_takeBack.2.2.1 mX1_takeBack.2.2.2.1 ∈ zTb := List.mem_filter.mpr ⟨List.mem_append_right _ (List.mem_of_getElem? (i := 730) (by decide +kernel)), by decide +kernel⟩
theorem zw727 : Cond.methodLink RX7 237 mX1_takeBack.1 ∈ zTb := List.mem_filter.mpr ⟨List.mem_append_right _ (List.mem_of_getElem? (i := 727) (by decide +kernel)), by decide +kernel⟩
theorem zkX7_237 : zLk RX7 237 mX1_takeBack 1 := ⟨Or.inl zw727, zw730, zw5, by decide +kernel, by decide +kernel, by decide +kernel⟩
theorem zw306 : Cond.code mX7_isIn.1 mX7_isIn.2.1 mX7_isIn.2.2.1 mX7_isIn.2.2.2.1 ∈ zTb := List.mem_filter.mpr ⟨List.mem_append_right _ (List.mem_of_getElem? (i := 306) (by decide +kernel)), by decide +kernel⟩
theorem zw738 : Cond.methodLink RX7 240 mX7_isIn.1 ∈ zTb := List.mem_filter.mpr ⟨List.mem_append_right _ (List.mem_of_getElem? (i := 738) (by decide +kernel)), by decide +kernel⟩
theorem zkX7_240 : zLk RX7 240 mX7_isIn 2 := ⟨Or.inl zw738, zw306, zw1, by decide +kernel, by decide +kernel, by decide +kernel⟩
theorem zw314 : Cond.code mX6_passedOn.1 mX6_passedOn.2.1 mX6_passedOn.2.2.1 mX6_passedOn.2.2.2.1 ∈ zTb := List.mem_filter.mpr ⟨List.mem_append_right _ (List.mem_of_getElem? (i := 314) (by decide +kernel)), by decide +kernel⟩
theorem zw739 : Cond.methodLink RX7 243 mX6_passedOn.1 ∈ zTb := List.mem_filter.mpr ⟨List.mem_append_right _ (List.mem_of_getElem? (i := 739) (by decide +kernel)), by decide +kernel⟩
theorem zkX7_243 : zLk RX7 243 mX6_passedOn 1 := ⟨Or.inl zw739, zw314, zw3, by decide +kernel, by decide +kernel, by decide +kernel⟩
theorem zw303 : Cond.code mX6_groupCount.1 mX6_groupCount.2.1 mX6_groupCount.2.2.1 mX6_groupCount.2.2.2.1 ∈ zTb := List.mem_filter.mpr ⟨List.mem_append_right _ (List.mem_of_getElem? (i := 303) (by decide +kernel)), by decide +kernel⟩
theorem zw300 : Cond.methodLink RX7 246 mX6_groupCount.1 ∈ zTb := List.mem_filter.mpr ⟨List.mem_append_right _ (List.mem_of_getElem? (i := 300) (by decide +kernel)), by decide +kernel⟩
theorem zkX7_246 : zLk RX7 246 mX6_groupCount 0 := ⟨Or.inl zw300, zw303, zw3, by decide +kernel, by decide +kernel, by decide +kernel⟩
theorem zw352 : Cond.code mX6_setAllRanges.1 mX6_setAllRanges.2.1 mX6_setAllRanges.2.2.1 mX6_setAllRanges.2.2.2.1 ∈ zTb := List.mem_filter.mpr ⟨List.mem_append_right _ (List.mem_of_getElem? (i := 352) (by decide +kernel)), by decide +kernel⟩
theorem zw349 : Cond.methodLink RX7 249 mX6_setAllRanges.1 ∈ zTb := List.mem_filter.mpr ⟨List.mem_append_right _ (List.mem_of_getElem? (i := 349) (by decide +kernel)), by decide +kernel⟩
theorem zkX7_249 : zLk RX7 249 mX6_setAllRanges 1 := ⟨Or.inl zw349, zw352, zw3, by decide +kernel, by decide +kernel, by decide +kernel⟩
theorem zw750 : Cond.code mX6_doublyClaimed.1 mX6_doublyClaimed.2.1 mX6_doublyClaimed.2.2.1 mX6_doublyClaimed.2.2.2.1 ∈ zTb := List.mem_filter.mpr ⟨List.mem_append_right _ (List.mem_of_getElem? (i := 750) (by decide +kernel)), by decide +kernel⟩
theorem zw747 : Cond.methodLink RX7 252 mX6_doublyClaimed.1 ∈ zTb := List.mem_filter.mpr ⟨List.mem_append_right _ (List.mem_of_getElem? (i := 747) (by decide +kernel)), by decide +kernel⟩
theorem zkX7_252 : zLk RX7 252 mX6_doublyClaimed 0 := ⟨Or.inl zw747, zw750, zw3, by decide +kernel, by decide +kernel, by decide +kernel⟩
theorem zw756 : Cond.code mX6_unknownFinishes.1 mX6_unknownFinishes.2.1 mX6_unknownFinishes.2.2.1 mX6_unknownFinishes.2.2.2.1 ∈ zTb := List.mem_filter.mpr ⟨List.mem_append_right _ (List.mem_of_getElem? (i := 756) (by decide +kernel)), by decide +kernel⟩
theorem zw753 : Cond.methodLink RX7 255 mX6_unknownFinishes.1 ∈ zTb := List.mem_filter.mpr ⟨List.mem_append_right _ (List.mem_of_getElem? (i := 753) (by decide +kernel)), by decide +kernel⟩
theorem zkX7_255 : zLk RX7 255 mX6_unknownFinishes 0 := ⟨Or.inl zw753, zw756, zw3, by decide +kernel, by decide +kernel, by decide +kernel⟩
theorem zw761 : Cond.code mX6_claimsOfLostAgents.1 mX6_claimsOfLostAgents.2.1 mX6_claimsOfLostAgents.2.2.1 mX6_claimsOfLostAgents.2.2.2.1 ∈ zTb := List.mem_filter.mpr ⟨List.mem_append_right _ (List.mem_of_getElem? (i := 761) (by decide +kernel)), by decide +kernel⟩
theorem zw758 : Cond.methodLink RX7 258 mX6_claimsOfLostAgents.1 ∈ zTb := List.mem_filter.mpr ⟨List.mem_append_right _ (List.mem_of_getElem? (i := 758) (by decide +kernel)), by decide +kernel⟩
theorem zkX7_258 : zLk RX7 258 mX6_claimsOfLostAgents 0 := ⟨Or.inl zw758, zw761, zw3, by decide +kernel, by decide +kernel, by decide +kernel⟩
theorem zw779 : Cond.code mX6_isKnownToAll.1 mX6_isKnownToAll.2.1 mX6_isKnownToAll.2.2.1 mX6_isKnownToAll.2.2.2.1 ∈ zTb := List.mem_filter.mpr ⟨List.mem_append_right _ (List.mem_of_getElem? (i := 779) (by decide +kernel)), by decide +kernel⟩
theorem zw776 : Cond.methodLink RX7 261 mX6_isKnownToAll.1 ∈ zTb := List.mem_filter.mpr ⟨List.mem_append_right _ (List.mem_of_getElem? (i := 776) (by decide +kernel)), by decide +kernel⟩
theorem zkX7_261 : zLk RX7 261 mX6_isKnownToAll 1 := ⟨Or.inl zw776, zw779, zw3, by decide +kernel, by decide +kernel, by decide +kernel⟩
theorem zw797 : Cond.code mX7_progressWithout.1 mX7_progressWithout.2.1 mX7_progressWithout.2.2.1 mX7_progressWithout.2.2.2.1 ∈ zTb := List.mem_filter.mpr ⟨List.mem_append_right _ (List.mem_of_getElem? (i := 797) (by decide +kernel)), by decide +kernel⟩
theorem zw794 : Cond.methodLink RX7 264 mX7_progressWithout.1 ∈ zTb := List.mem_filter.mpr ⟨List.mem_append_right _ (List.mem_of_getElem? (i := 794) (by decide +kernel)), by decide +kernel⟩
theorem zkX7_264 : zLk RX7 264 mX7_progressWithout 2 := ⟨Or.inl zw794, zw797, zw1, by decide +kernel, by decide +kernel, by decide +kernel⟩
theorem zw801 : Cond.code mX6_allProgress.1 mX6_allProgress.2.1 mX6_allProgress.2.2.1 mX6_allProgress.2.2.2.1 ∈ zTb := List.mem_filter.mpr ⟨List.mem_append_right _ (List.mem_of_getElem? (i := 801) (by decide +kernel)), by decide +kernel⟩
theorem zw798 : Cond.methodLink RX7 267 mX6_allProgress.1 ∈ zTb := List.mem_filter.mpr ⟨List.mem_append_right _ (List.mem_of_getElem? (i := 798) (by decide +kernel)), by decide +kernel⟩
theorem zkX7_267 : zLk RX7 267 mX6_allProgress 0 := ⟨Or.inl zw798, zw801, zw3, by decide +kernel, by decide +kernel, by decide +kernel⟩
theorem zw812 : Cond.code mX3_findBest.1 mX3_findBest.2.1 mX3_findBest.2.2.1 mX3_findBest.2.2.2.1 ∈ zTb := List.mem_filter.mpr ⟨List.mem_append_right _ (List.mem_of_getElem? (i := 812) (by decide +kernel)), by decide +kernel⟩
theorem zw809 : Cond.methodLink RX7 270 mX3_findBest.1 ∈ zTb := List.mem_filter.mpr ⟨List.mem_append_right _ (List.mem_of_getElem? (i := 809) (by decide +kernel)), by decide +kernel⟩
theorem zkX7_270 : zLk RX7 270 mX3_findBest 1 := ⟨Or.inl zw809, zw812, zw8, by decide +kernel, by decide +kernel, by decide +kernel⟩
theorem zw850 : Cond.code mX0_succeeds.1 mX0_succeeds.2.1 mX0_succeeds.2.2.1 mX0_succeeds.2.2.2.1 ∈ zTb := List.mem_filter.mpr ⟨List.mem_append_right _ (List.mem_of_getElem? (i := 850) (by decide +kernel)), by decide +kernel⟩
theorem zw847 : Cond.methodLink RX7 281 mX0_succeeds.1 ∈ zTb := List.mem_filter.mpr ⟨List.mem_append_right _ (List.mem_of_getElem? (i := 847) (by decide +kernel)), by decide +kernel⟩
theorem zkX7_281 : zLk RX7 281 mX0_succeeds 2 := ⟨Or.inl zw847, zw850, zw7, by decide +kernel, by decide +kernel, by decide +kernel⟩
theorem zw875 : Cond.code mX7_disturb.1 mX7_disturb.2.1 mX7_disturb.2.2.1 mX7_disturb.2.2.2.1 ∈ zTb := List.mem_filter.mpr ⟨List.mem_append_right _ (List.mem_of_getElem? (i := 875) (by decide +kernel)), by decide +kernel⟩
theorem zw873 : Cond.methodLink RX7 289 mX7_disturb.1 ∈ zTb := List.mem_filter.mpr ⟨List.mem_append_right _ (List.mem_of_getElem? (i := 873) (by decide +kernel)), by decide +kernel⟩
theorem zkX7_289 : zLk RX7 289 mX7_disturb 2 := ⟨Or.inl zw873, zw875, zw1, by decide +kernel, by decide +kernel, by decide +kernel⟩
theorem zw853 : Cond.code mX0_changes.1 mX0_changes.2.1 mX0_changes.2.2.1 mX0_changes.2.2.2.1 ∈ zTb := List.mem_filter.mpr ⟨List.mem_append_right _ (List.mem_of_getElem? (i := 853) (by decide +kernel)), by decide +kernel⟩
theorem zw851 : Cond.methodLink RX0 15 mX0_changes.1 ∈ zTb := List.mem_filter.mpr ⟨List.mem_append_right _ (List.mem_of_getElem? (i := 851) (by decide +kernel)), by decide +kernel⟩
theorem zkX0_15 : zLk RX0 15 mX0_changes 3 := ⟨Or.inl zw851, zw853, zw7, by decide +kernel, by decide +kernel, by decide +kernel⟩
theorem zw854 : Cond.methodLink RX0 19 mX6_hasAgent.1 ∈ zTb := List.mem_filter.mpr ⟨List.mem_append_right _ (List.mem_of_getElem? (i := 854) (by decide +kernel)), by decide +kernel⟩
theorem zkX0_19 : zLk RX0 19 mX6_hasAgent 1 := ⟨Or.inl zw854, zw512, zw3, by decide +kernel, by decide +kernel, by decide +kernel⟩
theorem zw859 : Cond.methodLink RX0 25 mX6_ownTask.1 ∈ zTb := List.mem_filter.mpr ⟨List.mem_append_right _ (List.mem_of_getElem? (i := 859) (by decide +kernel)), by decide +kernel⟩
theorem zkX0_25 : zLk RX0 25 mX6_ownTask 1 := ⟨Or.inl zw859, zw536, zw3, by decide +kernel, by decide +kernel, by decide +kernel⟩
theorem zw860 : Cond.methodLink RX0 29 mX4_makeSteps.1 ∈ zTb := List.mem_filter.mpr ⟨List.mem_append_right _ (List.mem_of_getElem? (i := 860) (by decide +kernel)), by decide +kernel⟩
theorem zkX0_29 : zLk RX0 29 mX4_makeSteps 2 := ⟨Or.inl zw860, zw597, zw6, by decide +kernel, by decide +kernel, by decide +kernel⟩
theorem zw861 : Cond.methodLink RX0 35 mX6_finishedTasks.1 ∈ zTb := List.mem_filter.mpr ⟨List.mem_append_right _ (List.mem_of_getElem? (i := 861) (by decide +kernel)), by decide +kernel⟩
theorem zkX0_35 : zLk RX0 35 mX6_finishedTasks 0 := ⟨Or.inl zw861, zw485, zw3, by decide +kernel, by decide +kernel, by decide +kernel⟩
theorem zw862 : Cond.methodLink RX0 39 mX6_doublyClaimed.1 ∈ zTb := List.mem_filter.mpr ⟨List.mem_append_right _ (List.mem_of_getElem? (i := 862) (by decide +kernel)), by decide +kernel⟩
theorem zkX0_39 : zLk RX0 39 mX6_doublyClaimed 0 := ⟨Or.inl zw862, zw750, zw3, by decide +kernel, by decide +kernel, by decide +kernel⟩
theorem zw863 : Cond.methodLink RX0 42 mX6_allWasted.1 ∈ zTb := List.mem_filter.mpr ⟨List.mem_append_right _ (List.mem_of_getElem? (i := 863) (by decide +kernel)), by decide +kernel⟩
theorem zkX0_42 : zLk RX0 42 mX6_allWasted 0 := ⟨Or.inl zw863, zw500, zw3, by decide +kernel, by decide +kernel, by decide +kernel⟩
theorem zw855 : Cond.methodLink RX0 49 mX6_switchAgent.1 ∈ zTb := List.mem_filter.mpr ⟨List.mem_append_right _ (List.mem_of_getElem? (i := 855) (by decide +kernel)), by decide +kernel⟩
theorem zkX0_49 : zLk RX0 49 mX6_switchAgent 1 := ⟨Or.inl zw855, zw680, zw3, by decide +kernel, by decide +kernel, by decide +kernel⟩
theorem zw856 : Cond.methodLink RX0 53 mX6_canPassClaim.1 ∈ zTb := List.mem_filter.mpr ⟨List.mem_append_right _ (List.mem_of_getElem? (i := 856) (by decide +kernel)), by decide +kernel⟩
theorem zkX0_53 : zLk RX0 53 mX6_canPassClaim 2 := ⟨Or.inl zw856, zw697, zw3, by decide +kernel, by decide +kernel, by decide +kernel⟩
theorem zw857 : Cond.methodLink RX0 57 mX6_passClaim.1 ∈ zTb := List.mem_filter.mpr ⟨List.mem_append_right _ (List.mem_of_getElem? (i := 857) (by decide +kernel)), by decide +kernel⟩
theorem zkX0_57 : zLk RX0 57 mX6_passClaim 2 := ⟨Or.inl zw857, zw702, zw3, by decide +kernel, by decide +kernel, by decide +kernel⟩
theorem zw858 : Cond.methodLink RX0 61 mX6_dropClaims.1 ∈ zTb := List.mem_filter.mpr ⟨List.mem_append_right _ (List.mem_of_getElem? (i := 858) (by decide +kernel)), by decide +kernel⟩
theorem zkX0_61 : zLk RX0 61 mX6_dropClaims 1 := ⟨Or.inl zw858, zw638, zw3, by decide +kernel, by decide +kernel, by decide +kernel⟩
theorem zn160 : Cond.methodLinkNest RX1 17 mX6_init.1 "ClaimedTasks" ∈ zNs := List.mem_filter.mpr ⟨List.mem_append_right _ (List.mem_of_getElem? (i := 160) (by decide +kernel)), by decide +kernel⟩
theorem zkX1_17 : zLk RX1 17 mX6_init 0 := ⟨Or.inr ⟨"ClaimedTasks", zn160⟩, zw46, zw3, by decide +kernel, by decide +kernel, by decide +kernel⟩
theorem zw592 : Cond.methodLink RX1 22 mX6_copyFrom.1 ∈ zTb := List.mem_filter.mpr ⟨List.mem_append_right _ (List.mem_of_getElem? (i := 592) (by decide +kernel)), by decide +kernel⟩
theorem zkX1_22 : zLk RX1 22 mX6_copyFrom 1 := ⟨Or.inl zw592, zw340, zw3, by decide +kernel, by decide +kernel, by decide +kernel⟩
theorem zw332 : Cond.code mJ9_min_7cf53.1 mJ9_min_7cf53.2.1 mJ9_min_7cf53.2.2.1 mJ9_min_7cf53.2.2.2.1 ∈ zTb := List.mem_filter.mpr ⟨List.mem_append_right _ (List.mem_of_getElem? (i := 332) (by decide +kernel)), by decide +kernel⟩
theorem zw17 : Cond.initialized RJ9 ∈ zTb := List.mem_filter.mpr ⟨List.mem_append_right _ (List.mem_of_getElem? (i := 17) (by decide +kernel)), by decide +kernel⟩
theorem zw593 : Cond.methodLink RX1 29 mJ9_min_7cf53.1 ∈ zTb := List.mem_filter.mpr ⟨List.mem_append_right _ (List.mem_of_getElem? (i := 593) (by decide +kernel)), by decide +kernel⟩
theorem zkX1_29 : zLk RX1 29 mJ9_min_7cf53 2 := ⟨Or.inl zw593, zw332, zw17, by decide +kernel, by decide +kernel, by decide +kernel⟩
theorem zw618 : Cond.code mX2_isExpiredClaim.1 mX2_isExpiredClaim.2.1 mX2_isExpiredClaim.2.2.1 mX2_isExpiredClaim.2.2.2.1 ∈ zTb := List.mem_filter.mpr ⟨List.mem_append_right _ (List.mem_of_getElem? (i := 618) (by decide +kernel)), by decide +kernel⟩
theorem zw4 : Cond.initialized RX2 ∈ zTb := List.mem_filter.mpr ⟨List.mem_append_right _ (List.mem_of_getElem? (i := 4) (by decide +kernel)), by decide +kernel⟩
theorem zw615 : Cond.methodLink RX2 30 mX2_isExpiredClaim.1 ∈ zTb := List.mem_filter.mpr ⟨List.mem_append_right _ (List.mem_of_getElem? (i := 615) (by decide +kernel)), by decide +kernel⟩
theorem zkX2_30 : zLk RX2 30 mX2_isExpiredClaim 2 := ⟨Or.inl zw615, zw618, zw4, by decide +kernel, by decide +kernel, by decide +kernel⟩
theorem zw816 : Cond.code mX3_mostFor.1 mX3_mostFor.2.1 mX3_mostFor.2.2.1 mX3_mostFor.2.2.2.1 ∈ zTb := List.mem_filter.mpr ⟨List.mem_append_right _ (List.mem_of_getElem? (i := 816) (by decide +kernel)), by decide +kernel⟩
theorem zw813 : Cond.methodLink RX3 27 mX3_mostFor.1 ∈ zTb := List.mem_filter.mpr ⟨List.mem_append_right _ (List.mem_of_getElem? (i := 813) (by decide +kernel)), by decide +kernel⟩
theorem zkX3_27 : zLk RX3 27 mX3_mostFor 3 := ⟨Or.inl zw813, zw816, zw8, by decide +kernel, by decide +kernel, by decide +kernel⟩
theorem zw834 : Cond.code mX3_followBest.1 mX3_followBest.2.1 mX3_followBest.2.2.1 mX3_followBest.2.2.2.1 ∈ zTb := List.mem_filter.mpr ⟨List.mem_append_right _ (List.mem_of_getElem? (i := 834) (by decide +kernel)), by decide +kernel⟩
theorem zw831 : Cond.methodLink RX3 31 mX3_followBest.1 ∈ zTb := List.mem_filter.mpr ⟨List.mem_append_right _ (List.mem_of_getElem? (i := 831) (by decide +kernel)), by decide +kernel⟩
theorem zkX3_31 : zLk RX3 31 mX3_followBest 1 := ⟨Or.inl zw831, zw834, zw8, by decide +kernel, by decide +kernel, by decide +kernel⟩
theorem zw819 : Cond.code mX3_mayTake.1 mX3_mayTake.2.1 mX3_mayTake.2.2.1 mX3_mayTake.2.2.2.1 ∈ zTb := List.mem_filter.mpr ⟨List.mem_append_right _ (List.mem_of_getElem? (i := 819) (by decide +kernel)), by decide +kernel⟩
theorem zw817 : Cond.methodLink RX3 35 mX3_mayTake.1 ∈ zTb := List.mem_filter.mpr ⟨List.mem_append_right _ (List.mem_of_getElem? (i := 817) (by decide +kernel)), by decide +kernel⟩
theorem zkX3_35 : zLk RX3 35 mX3_mayTake 4 := ⟨Or.inl zw817, zw819, zw8, by decide +kernel, by decide +kernel, by decide +kernel⟩
theorem zw826 : Cond.code mX3_worthOf.1 mX3_worthOf.2.1 mX3_worthOf.2.2.1 mX3_worthOf.2.2.2.1 ∈ zTb := List.mem_filter.mpr ⟨List.mem_append_right _ (List.mem_of_getElem? (i := 826) (by decide +kernel)), by decide +kernel⟩
theorem zw823 : Cond.methodLink RX3 39 mX3_worthOf.1 ∈ zTb := List.mem_filter.mpr ⟨List.mem_append_right _ (List.mem_of_getElem? (i := 823) (by decide +kernel)), by decide +kernel⟩
theorem zkX3_39 : zLk RX3 39 mX3_worthOf 4 := ⟨Or.inl zw823, zw826, zw8, by decide +kernel, by decide +kernel, by decide +kernel⟩
theorem zw830 : Cond.code mJ9_max_7cf53.1 mJ9_max_7cf53.2.1 mJ9_max_7cf53.2.2.1 mJ9_max_7cf53.2.2.2.1 ∈ zTb := List.mem_filter.mpr ⟨List.mem_append_right _ (List.mem_of_getElem? (i := 830) (by decide +kernel)), by decide +kernel⟩
theorem zw828 : Cond.methodLink RX3 43 mJ9_max_7cf53.1 ∈ zTb := List.mem_filter.mpr ⟨List.mem_append_right _ (List.mem_of_getElem? (i := 828) (by decide +kernel)), by decide +kernel⟩
theorem zkX3_43 : zLk RX3 43 mJ9_max_7cf53 2 := ⟨Or.inl zw828, zw830, zw17, by decide +kernel, by decide +kernel, by decide +kernel⟩
theorem zw820 : Cond.methodLink RX3 49 mX6_isOn.1 ∈ zTb := List.mem_filter.mpr ⟨List.mem_append_right _ (List.mem_of_getElem? (i := 820) (by decide +kernel)), by decide +kernel⟩
theorem zkX3_49 : zLk RX3 49 mX6_isOn 1 := ⟨Or.inl zw820, zw326, zw3, by decide +kernel, by decide +kernel, by decide +kernel⟩
theorem zn821 : Cond.methodLinkNest RX3 53 mX7_isIn.1 "ClaimedTasks" ∈ zNs := List.mem_filter.mpr ⟨List.mem_append_right _ (List.mem_of_getElem? (i := 821) (by decide +kernel)), by decide +kernel⟩
theorem zkX3_53 : zLk RX3 53 mX7_isIn 2 := ⟨Or.inr ⟨"ClaimedTasks", zn821⟩, zw306, zw1, by decide +kernel, by decide +kernel, by decide +kernel⟩
theorem zw822 : Cond.methodLink RX3 57 mX6_isFinished.1 ∈ zTb := List.mem_filter.mpr ⟨List.mem_append_right _ (List.mem_of_getElem? (i := 822) (by decide +kernel)), by decide +kernel⟩
theorem zkX3_57 : zLk RX3 57 mX6_isFinished 1 := ⟨Or.inl zw822, zw489, zw3, by decide +kernel, by decide +kernel, by decide +kernel⟩
theorem zw634 : Cond.code mX6_wayToTask.1 mX6_wayToTask.2.1 mX6_wayToTask.2.2.1 mX6_wayToTask.2.2.2.1 ∈ zTb := List.mem_filter.mpr ⟨List.mem_append_right _ (List.mem_of_getElem? (i := 634) (by decide +kernel)), by decide +kernel⟩
theorem zw827 : Cond.methodLink RX3 60 mX6_wayToTask.1 ∈ zTb := List.mem_filter.mpr ⟨List.mem_append_right _ (List.mem_of_getElem? (i := 827) (by decide +kernel)), by decide +kernel⟩
theorem zkX3_60 : zLk RX3 60 mX6_wayToTask 2 := ⟨Or.inl zw827, zw634, zw3, by decide +kernel, by decide +kernel, by decide +kernel⟩
theorem zw838 : Cond.code mX3_smallestBest.1 mX3_smallestBest.2.1 mX3_smallestBest.2.2.1 mX3_smallestBest.2.2.2.1 ∈ zTb := List.mem_filter.mpr ⟨List.mem_append_right _ (List.mem_of_getElem? (i := 838) (by decide +kernel)), by decide +kernel⟩
theorem zw835 : Cond.methodLink RX3 66 mX3_smallestBest.1 ∈ zTb := List.mem_filter.mpr ⟨List.mem_append_right _ (List.mem_of_getElem? (i := 835) (by decide +kernel)), by decide +kernel⟩
theorem zkX3_66 : zLk RX3 66 mX3_smallestBest 3 := ⟨Or.inl zw835, zw838, zw8, by decide +kernel, by decide +kernel, by decide +kernel⟩
theorem zw52 : Cond.code mX2_init.1 mX2_init.2.1 mX2_init.2.2.1 mX2_init.2.2.2.1 ∈ zTb := List.mem_filter.mpr ⟨List.mem_append_right _ (List.mem_of_getElem? (i := 52) (by decide +kernel)), by decide +kernel⟩
theorem zn179 : Cond.methodLinkNest RX4 11 mX2_init.1 "ClaimedTasks" ∈ zNs := List.mem_filter.mpr ⟨List.mem_append_right _ (List.mem_of_getElem? (i := 179) (by decide +kernel)), by decide +kernel⟩
theorem zkX4_11 : zLk RX4 11 mX2_init 0 := ⟨Or.inr ⟨"ClaimedTasks", zn179⟩, zw52, zw4, by decide +kernel, by decide +kernel, by decide +kernel⟩
theorem zw347 : Cond.code mX2_copyFrom.1 mX2_copyFrom.2.1 mX2_copyFrom.2.2.1 mX2_copyFrom.2.2.2.1 ∈ zTb := List.mem_filter.mpr ⟨List.mem_append_right _ (List.mem_of_getElem? (i := 347) (by decide +kernel)), by decide +kernel⟩
theorem zw598 : Cond.methodLink RX4 23 mX2_copyFrom.1 ∈ zTb := List.mem_filter.mpr ⟨List.mem_append_right _ (List.mem_of_getElem? (i := 598) (by decide +kernel)), by decide +kernel⟩
theorem zkX4_23 : zLk RX4 23 mX2_copyFrom 1 := ⟨Or.inl zw598, zw347, zw4, by decide +kernel, by decide +kernel, by decide +kernel⟩
theorem zw599 : Cond.methodLink RX4 31 mX6_isOn.1 ∈ zTb := List.mem_filter.mpr ⟨List.mem_append_right _ (List.mem_of_getElem? (i := 599) (by decide +kernel)), by decide +kernel⟩
theorem zkX4_31 : zLk RX4 31 mX6_isOn 1 := ⟨Or.inl zw599, zw326, zw3, by decide +kernel, by decide +kernel, by decide +kernel⟩
theorem zw603 : Cond.code mX4_compareNotes.1 mX4_compareNotes.2.1 mX4_compareNotes.2.2.1 mX4_compareNotes.2.2.2.1 ∈ zTb := List.mem_filter.mpr ⟨List.mem_append_right _ (List.mem_of_getElem? (i := 603) (by decide +kernel)), by decide +kernel⟩
theorem zw600 : Cond.methodLink RX4 35 mX4_compareNotes.1 ∈ zTb := List.mem_filter.mpr ⟨List.mem_append_right _ (List.mem_of_getElem? (i := 600) (by decide +kernel)), by decide +kernel⟩
theorem zkX4_35 : zLk RX4 35 mX4_compareNotes 2 := ⟨Or.inl zw600, zw603, zw6, by decide +kernel, by decide +kernel, by decide +kernel⟩
theorem zw626 : Cond.code mX4_chooseClaim.1 mX4_chooseClaim.2.1 mX4_chooseClaim.2.2.1 mX4_chooseClaim.2.2.2.1 ∈ zTb := List.mem_filter.mpr ⟨List.mem_append_right _ (List.mem_of_getElem? (i := 626) (by decide +kernel)), by decide +kernel⟩
theorem zw624 : Cond.methodLink RX4 39 mX4_chooseClaim.1 ∈ zTb := List.mem_filter.mpr ⟨List.mem_append_right _ (List.mem_of_getElem? (i := 624) (by decide +kernel)), by decide +kernel⟩
theorem zkX4_39 : zLk RX4 39 mX4_chooseClaim 2 := ⟨Or.inl zw624, zw626, zw6, by decide +kernel, by decide +kernel, by decide +kernel⟩
theorem zw645 : Cond.code mX4_workOrMove.1 mX4_workOrMove.2.1 mX4_workOrMove.2.2.1 mX4_workOrMove.2.2.2.1 ∈ zTb := List.mem_filter.mpr ⟨List.mem_append_right _ (List.mem_of_getElem? (i := 645) (by decide +kernel)), by decide +kernel⟩
theorem zw643 : Cond.methodLink RX4 42 mX4_workOrMove.1 ∈ zTb := List.mem_filter.mpr ⟨List.mem_append_right _ (List.mem_of_getElem? (i := 643) (by decide +kernel)), by decide +kernel⟩
theorem zkX4_42 : zLk RX4 42 mX4_workOrMove 2 := ⟨Or.inl zw643, zw645, zw6, by decide +kernel, by decide +kernel, by decide +kernel⟩
theorem zw604 : Cond.methodLink RX4 48 mX6_heardBy.1 ∈ zTb := List.mem_filter.mpr ⟨List.mem_append_right _ (List.mem_of_getElem? (i := 604) (by decide +kernel)), by decide +kernel⟩
theorem zkX4_48 : zLk RX4 48 mX6_heardBy 1 := ⟨Or.inl zw604, zw318, zw3, by decide +kernel, by decide +kernel, by decide +kernel⟩
theorem zn605 : Cond.methodLinkNest RX4 55 mX7_noteIndex.1 "ClaimedTasks" ∈ zNs := List.mem_filter.mpr ⟨List.mem_append_right _ (List.mem_of_getElem? (i := 605) (by decide +kernel)), by decide +kernel⟩
theorem zkX4_55 : zLk RX4 55 mX7_noteIndex 2 := ⟨Or.inr ⟨"ClaimedTasks", zn605⟩, zw543, zw1, by decide +kernel, by decide +kernel, by decide +kernel⟩
theorem zw609 : Cond.code mX4_bestNote.1 mX4_bestNote.2.1 mX4_bestNote.2.2.1 mX4_bestNote.2.2.2.1 ∈ zTb := List.mem_filter.mpr ⟨List.mem_append_right _ (List.mem_of_getElem? (i := 609) (by decide +kernel)), by decide +kernel⟩
theorem zw606 : Cond.methodLink RX4 59 mX4_bestNote.1 ∈ zTb := List.mem_filter.mpr ⟨List.mem_append_right _ (List.mem_of_getElem? (i := 606) (by decide +kernel)), by decide +kernel⟩
theorem zkX4_59 : zLk RX4 59 mX4_bestNote 4 := ⟨Or.inl zw606, zw609, zw6, by decide +kernel, by decide +kernel, by decide +kernel⟩
theorem zw619 : Cond.methodLink RX4 63 mX2_isExpiredClaim.1 ∈ zTb := List.mem_filter.mpr ⟨List.mem_append_right _ (List.mem_of_getElem? (i := 619) (by decide +kernel)), by decide +kernel⟩
theorem zkX4_63 : zLk RX4 63 mX2_isExpiredClaim 2 := ⟨Or.inl zw619, zw618, zw4, by decide +kernel, by decide +kernel, by decide +kernel⟩
theorem zw623 : Cond.code mX2_copyOne.1 mX2_copyOne.2.1 mX2_copyOne.2.2.1 mX2_copyOne.2.2.2.1 ∈ zTb := List.mem_filter.mpr ⟨List.mem_append_right _ (List.mem_of_getElem? (i := 623) (by decide +kernel)), by decide +kernel⟩
theorem zw620 : Cond.methodLink RX4 71 mX2_copyOne.1 ∈ zTb := List.mem_filter.mpr ⟨List.mem_append_right _ (List.mem_of_getElem? (i := 620) (by decide +kernel)), by decide +kernel⟩
theorem zkX4_71 : zLk RX4 71 mX2_copyOne 3 := ⟨Or.inl zw620, zw623, zw4, by decide +kernel, by decide +kernel, by decide +kernel⟩
theorem zn610 : Cond.methodLinkNest RX4 75 mX7_isIn.1 "ClaimedTasks" ∈ zNs := List.mem_filter.mpr ⟨List.mem_append_right _ (List.mem_of_getElem? (i := 610) (by decide +kernel)), by decide +kernel⟩
theorem zkX4_75 : zLk RX4 75 mX7_isIn 2 := ⟨Or.inr ⟨"ClaimedTasks", zn610⟩, zw306, zw1, by decide +kernel, by decide +kernel, by decide +kernel⟩
theorem zw614 : Cond.code mX2_isBetter.1 mX2_isBetter.2.1 mX2_isBetter.2.2.1 mX2_isBetter.2.2.2.1 ∈ zTb := List.mem_filter.mpr ⟨List.mem_append_right _ (List.mem_of_getElem? (i := 614) (by decide +kernel)), by decide +kernel⟩
theorem zw611 : Cond.methodLink RX4 78 mX2_isBetter.1 ∈ zTb := List.mem_filter.mpr ⟨List.mem_append_right _ (List.mem_of_getElem? (i := 611) (by decide +kernel)), by decide +kernel⟩
theorem zkX4_78 : zLk RX4 78 mX2_isBetter 3 := ⟨Or.inl zw611, zw614, zw4, by decide +kernel, by decide +kernel, by decide +kernel⟩
theorem zw629 : Cond.code mX4_nearest.1 mX4_nearest.2.1 mX4_nearest.2.2.1 mX4_nearest.2.2.2.1 ∈ zTb := List.mem_filter.mpr ⟨List.mem_append_right _ (List.mem_of_getElem? (i := 629) (by decide +kernel)), by decide +kernel⟩
theorem zw627 : Cond.methodLink RX4 82 mX4_nearest.1 ∈ zTb := List.mem_filter.mpr ⟨List.mem_append_right _ (List.mem_of_getElem? (i := 627) (by decide +kernel)), by decide +kernel⟩
theorem zkX4_82 : zLk RX4 82 mX4_nearest 3 := ⟨Or.inl zw627, zw629, zw6, by decide +kernel, by decide +kernel, by decide +kernel⟩
theorem zw635 : Cond.methodLink RX4 86 mX6_dropClaims.1 ∈ zTb := List.mem_filter.mpr ⟨List.mem_append_right _ (List.mem_of_getElem? (i := 635) (by decide +kernel)), by decide +kernel⟩
theorem zkX4_86 : zLk RX4 86 mX6_dropClaims 1 := ⟨Or.inl zw635, zw638, zw3, by decide +kernel, by decide +kernel, by decide +kernel⟩
theorem zw631 : Cond.methodLink RX4 89 mX6_wayToTask.1 ∈ zTb := List.mem_filter.mpr ⟨List.mem_append_right _ (List.mem_of_getElem? (i := 631) (by decide +kernel)), by decide +kernel⟩
theorem zkX4_89 : zLk RX4 89 mX6_wayToTask 2 := ⟨Or.inl zw631, zw634, zw3, by decide +kernel, by decide +kernel, by decide +kernel⟩
theorem zw642 : Cond.code mX2_makeClaim.1 mX2_makeClaim.2.1 mX2_makeClaim.2.2.1 mX2_makeClaim.2.2.2.1 ∈ zTb := List.mem_filter.mpr ⟨List.mem_append_right _ (List.mem_of_getElem? (i := 642) (by decide +kernel)), by decide +kernel⟩
theorem zw639 : Cond.methodLink RX4 95 mX2_makeClaim.1 ∈ zTb := List.mem_filter.mpr ⟨List.mem_append_right _ (List.mem_of_getElem? (i := 639) (by decide +kernel)), by decide +kernel⟩
theorem zkX4_95 : zLk RX4 95 mX2_makeClaim 4 := ⟨Or.inl zw639, zw642, zw4, by decide +kernel, by decide +kernel, by decide +kernel⟩
theorem zw540 : Cond.code mX6_ownsLiveClaim.1 mX6_ownsLiveClaim.2.1 mX6_ownsLiveClaim.2.2.1 mX6_ownsLiveClaim.2.2.2.1 ∈ zTb := List.mem_filter.mpr ⟨List.mem_append_right _ (List.mem_of_getElem? (i := 540) (by decide +kernel)), by decide +kernel⟩
theorem zw630 : Cond.methodLink RX4 99 mX6_ownsLiveClaim.1 ∈ zTb := List.mem_filter.mpr ⟨List.mem_append_right _ (List.mem_of_getElem? (i := 630) (by decide +kernel)), by decide +kernel⟩
theorem zkX4_99 : zLk RX4 99 mX6_ownsLiveClaim 2 := ⟨Or.inl zw630, zw540, zw3, by decide +kernel, by decide +kernel, by decide +kernel⟩
theorem zw646 : Cond.methodLink RX4 102 mX6_ownTask.1 ∈ zTb := List.mem_filter.mpr ⟨List.mem_append_right _ (List.mem_of_getElem? (i := 646) (by decide +kernel)), by decide +kernel⟩
theorem zkX4_102 : zLk RX4 102 mX6_ownTask 1 := ⟨Or.inl zw646, zw536, zw3, by decide +kernel, by decide +kernel, by decide +kernel⟩
theorem zw649 : Cond.code mX4_moveTowards.1 mX4_moveTowards.2.1 mX4_moveTowards.2.2.1 mX4_moveTowards.2.2.2.1 ∈ zTb := List.mem_filter.mpr ⟨List.mem_append_right _ (List.mem_of_getElem? (i := 649) (by decide +kernel)), by decide +kernel⟩
theorem zw647 : Cond.methodLink RX4 111 mX4_moveTowards.1 ∈ zTb := List.mem_filter.mpr ⟨List.mem_append_right _ (List.mem_of_getElem? (i := 647) (by decide +kernel)), by decide +kernel⟩
theorem zkX4_111 : zLk RX4 111 mX4_moveTowards 4 := ⟨Or.inl zw647, zw649, zw6, by decide +kernel, by decide +kernel, by decide +kernel⟩
theorem zw650 : Cond.methodLink RX4 115 mX6_isFinished.1 ∈ zTb := List.mem_filter.mpr ⟨List.mem_append_right _ (List.mem_of_getElem? (i := 650) (by decide +kernel)), by decide +kernel⟩
theorem zkX4_115 : zLk RX4 115 mX6_isFinished 1 := ⟨Or.inl zw650, zw489, zw3, by decide +kernel, by decide +kernel, by decide +kernel⟩
theorem zw463 : Cond.methodLink RX5 19 mX5_hasRoom.1 ∈ zTb := List.mem_filter.mpr ⟨List.mem_append_right _ (List.mem_of_getElem? (i := 463) (by decide +kernel)), by decide +kernel⟩
theorem zkX5_19 : zLk RX5 19 mX5_hasRoom 0 := ⟨Or.inl zw463, zw439, zw2, by decide +kernel, by decide +kernel, by decide +kernel⟩
theorem zw255 : Cond.code mX5_codeAt.1 mX5_codeAt.2.1 mX5_codeAt.2.2.1 mX5_codeAt.2.2.2.1 ∈ zTb := List.mem_filter.mpr ⟨List.mem_append_right _ (List.mem_of_getElem? (i := 255) (by decide +kernel)), by decide +kernel⟩
theorem zw252 : Cond.methodLink RX5 23 mX5_codeAt.1 ∈ zTb := List.mem_filter.mpr ⟨List.mem_append_right _ (List.mem_of_getElem? (i := 252) (by decide +kernel)), by decide +kernel⟩
theorem zkX5_23 : zLk RX5 23 mX5_codeAt 1 := ⟨Or.inl zw252, zw255, zw2, by decide +kernel, by decide +kernel, by decide +kernel⟩
theorem zw259 : Cond.code mX5_badInNumber.1 mX5_badInNumber.2.1 mX5_badInNumber.2.2.1 mX5_badInNumber.2.2.2.1 ∈ zTb := List.mem_filter.mpr ⟨List.mem_append_right _ (List.mem_of_getElem? (i := 259) (by decide +kernel)), by decide +kernel⟩
theorem zw256 : Cond.methodLink RX5 27 mX5_badInNumber.1 ∈ zTb := List.mem_filter.mpr ⟨List.mem_append_right _ (List.mem_of_getElem? (i := 256) (by decide +kernel)), by decide +kernel⟩
theorem zkX5_27 : zLk RX5 27 mX5_badInNumber 3 := ⟨Or.inl zw256, zw259, zw2, by decide +kernel, by decide +kernel, by decide +kernel⟩
theorem zw267 : Cond.code mX5_numberAt.1 mX5_numberAt.2.1 mX5_numberAt.2.2.1 mX5_numberAt.2.2.2.1 ∈ zTb := List.mem_filter.mpr ⟨List.mem_append_right _ (List.mem_of_getElem? (i := 267) (by decide +kernel)), by decide +kernel⟩
theorem zw264 : Cond.methodLink RX5 31 mX5_numberAt.1 ∈ zTb := List.mem_filter.mpr ⟨List.mem_append_right _ (List.mem_of_getElem? (i := 264) (by decide +kernel)), by decide +kernel⟩
theorem zkX5_31 : zLk RX5 31 mX5_numberAt 1 := ⟨Or.inl zw264, zw267, zw2, by decide +kernel, by decide +kernel, by decide +kernel⟩
theorem zw271 : Cond.code mX6_makeBare.1 mX6_makeBare.2.1 mX6_makeBare.2.2.1 mX6_makeBare.2.2.2.1 ∈ zTb := List.mem_filter.mpr ⟨List.mem_append_right _ (List.mem_of_getElem? (i := 271) (by decide +kernel)), by decide +kernel⟩
theorem zw268 : Cond.methodLink RX5 34 mX6_makeBare.1 ∈ zTb := List.mem_filter.mpr ⟨List.mem_append_right _ (List.mem_of_getElem? (i := 268) (by decide +kernel)), by decide +kernel⟩
theorem zkX5_34 : zLk RX5 34 mX6_makeBare 1 := ⟨Or.inl zw268, zw271, zw3, by decide +kernel, by decide +kernel, by decide +kernel⟩
theorem zw279 : Cond.code mX5_readAgent.1 mX5_readAgent.2.1 mX5_readAgent.2.2.1 mX5_readAgent.2.2.2.1 ∈ zTb := List.mem_filter.mpr ⟨List.mem_append_right _ (List.mem_of_getElem? (i := 279) (by decide +kernel)), by decide +kernel⟩
theorem zw276 : Cond.methodLink RX5 40 mX5_readAgent.1 ∈ zTb := List.mem_filter.mpr ⟨List.mem_append_right _ (List.mem_of_getElem? (i := 276) (by decide +kernel)), by decide +kernel⟩
theorem zkX5_40 : zLk RX5 40 mX5_readAgent 2 := ⟨Or.inl zw276, zw279, zw2, by decide +kernel, by decide +kernel, by decide +kernel⟩
theorem zw291 : Cond.code mX5_readTask.1 mX5_readTask.2.1 mX5_readTask.2.2.1 mX5_readTask.2.2.2.1 ∈ zTb := List.mem_filter.mpr ⟨List.mem_append_right _ (List.mem_of_getElem? (i := 291) (by decide +kernel)), by decide +kernel⟩
theorem zw288 : Cond.methodLink RX5 44 mX5_readTask.1 ∈ zTb := List.mem_filter.mpr ⟨List.mem_append_right _ (List.mem_of_getElem? (i := 288) (by decide +kernel)), by decide +kernel⟩
theorem zkX5_44 : zLk RX5 44 mX5_readTask 2 := ⟨Or.inl zw288, zw291, zw2, by decide +kernel, by decide +kernel, by decide +kernel⟩
theorem zw283 : Cond.code mX5_badInPlace.1 mX5_badInPlace.2.1 mX5_badInPlace.2.2.1 mX5_badInPlace.2.2.2.1 ∈ zTb := List.mem_filter.mpr ⟨List.mem_append_right _ (List.mem_of_getElem? (i := 283) (by decide +kernel)), by decide +kernel⟩
theorem zw280 : Cond.methodLink RX5 50 mX5_badInPlace.1 ∈ zTb := List.mem_filter.mpr ⟨List.mem_append_right _ (List.mem_of_getElem? (i := 280) (by decide +kernel)), by decide +kernel⟩
theorem zkX5_50 : zLk RX5 50 mX5_badInPlace 1 := ⟨Or.inl zw280, zw283, zw2, by decide +kernel, by decide +kernel, by decide +kernel⟩
theorem zw287 : Cond.code mX6_addAgent.1 mX6_addAgent.2.1 mX6_addAgent.2.2.1 mX6_addAgent.2.2.2.1 ∈ zTb := List.mem_filter.mpr ⟨List.mem_append_right _ (List.mem_of_getElem? (i := 287) (by decide +kernel)), by decide +kernel⟩
theorem zw284 : Cond.methodLink RX5 53 mX6_addAgent.1 ∈ zTb := List.mem_filter.mpr ⟨List.mem_append_right _ (List.mem_of_getElem? (i := 284) (by decide +kernel)), by decide +kernel⟩
theorem zkX5_53 : zLk RX5 53 mX6_addAgent 3 := ⟨Or.inl zw284, zw287, zw3, by decide +kernel, by decide +kernel, by decide +kernel⟩
theorem zw263 : Cond.code mX5_digitAt.1 mX5_digitAt.2.1 mX5_digitAt.2.2.1 mX5_digitAt.2.2.2.1 ∈ zTb := List.mem_filter.mpr ⟨List.mem_append_right _ (List.mem_of_getElem? (i := 263) (by decide +kernel)), by decide +kernel⟩
theorem zw260 : Cond.methodLink RX5 60 mX5_digitAt.1 ∈ zTb := List.mem_filter.mpr ⟨List.mem_append_right _ (List.mem_of_getElem? (i := 260) (by decide +kernel)), by decide +kernel⟩
theorem zkX5_60 : zLk RX5 60 mX5_digitAt 1 := ⟨Or.inl zw260, zw263, zw2, by decide +kernel, by decide +kernel, by decide +kernel⟩
theorem zw295 : Cond.code mX6_addTask.1 mX6_addTask.2.1 mX6_addTask.2.2.1 mX6_addTask.2.2.2.1 ∈ zTb := List.mem_filter.mpr ⟨List.mem_append_right _ (List.mem_of_getElem? (i := 295) (by decide +kernel)), by decide +kernel⟩
theorem zw292 : Cond.methodLink RX5 63 mX6_addTask.1 ∈ zTb := List.mem_filter.mpr ⟨List.mem_append_right _ (List.mem_of_getElem? (i := 292) (by decide +kernel)), by decide +kernel⟩
theorem zkX5_63 : zLk RX5 63 mX6_addTask 3 := ⟨Or.inl zw292, zw295, zw3, by decide +kernel, by decide +kernel, by decide +kernel⟩
theorem zn50 : Cond.methodLinkNest RX6 45 mX2_init.1 "ClaimedTasks" ∈ zNs := List.mem_filter.mpr ⟨List.mem_append_right _ (List.mem_of_getElem? (i := 50) (by decide +kernel)), by decide +kernel⟩
theorem zkX6_45 : zLk RX6 45 mX2_init 0 := ⟨Or.inr ⟨"ClaimedTasks", zn50⟩, zw52, zw4, by decide +kernel, by decide +kernel, by decide +kernel⟩
theorem zw344 : Cond.methodLink RX6 68 mX2_copyFrom.1 ∈ zTb := List.mem_filter.mpr ⟨List.mem_append_right _ (List.mem_of_getElem? (i := 344) (by decide +kernel)), by decide +kernel⟩
theorem zkX6_68 : zLk RX6 68 mX2_copyFrom 1 := ⟨Or.inl zw344, zw347, zw4, by decide +kernel, by decide +kernel, by decide +kernel⟩
theorem zw275 : Cond.code mX2_makeAllEmpty.1 mX2_makeAllEmpty.2.1 mX2_makeAllEmpty.2.2.1 mX2_makeAllEmpty.2.2.2.1 ∈ zTb := List.mem_filter.mpr ⟨List.mem_append_right _ (List.mem_of_getElem? (i := 275) (by decide +kernel)), by decide +kernel⟩
theorem zw272 : Cond.methodLink RX6 72 mX2_makeAllEmpty.1 ∈ zTb := List.mem_filter.mpr ⟨List.mem_append_right _ (List.mem_of_getElem? (i := 272) (by decide +kernel)), by decide +kernel⟩
theorem zkX6_72 : zLk RX6 72 mX2_makeAllEmpty 0 := ⟨Or.inl zw272, zw275, zw4, by decide +kernel, by decide +kernel, by decide +kernel⟩
theorem zn327 : Cond.methodLinkNest RX6 75 mX7_distanceOf.1 "ClaimedTasks" ∈ zNs := List.mem_filter.mpr ⟨List.mem_append_right _ (List.mem_of_getElem? (i := 327) (by decide +kernel)), by decide +kernel⟩
theorem zkX6_75 : zLk RX6 75 mX7_distanceOf 4 := ⟨Or.inr ⟨"ClaimedTasks", zn327⟩, zw329, zw1, by decide +kernel, by decide +kernel, by decide +kernel⟩
theorem zn541 : Cond.methodLinkNest RX6 79 mX7_noteIndex.1 "ClaimedTasks" ∈ zNs := List.mem_filter.mpr ⟨List.mem_append_right _ (List.mem_of_getElem? (i := 541) (by decide +kernel)), by decide +kernel⟩
theorem zkX6_79 : zLk RX6 79 mX7_noteIndex 2 := ⟨Or.inr ⟨"ClaimedTasks", zn541⟩, zw543, zw1, by decide +kernel, by decide +kernel, by decide +kernel⟩
theorem zw547 : Cond.code mX2_isClaimOf.1 mX2_isClaimOf.2.1 mX2_isClaimOf.2.2.1 mX2_isClaimOf.2.2.2.1 ∈ zTb := List.mem_filter.mpr ⟨List.mem_append_right _ (List.mem_of_getElem? (i := 547) (by decide +kernel)), by decide +kernel⟩
theorem zw544 : Cond.methodLink RX6 83 mX2_isClaimOf.1 ∈ zTb := List.mem_filter.mpr ⟨List.mem_append_right _ (List.mem_of_getElem? (i := 544) (by decide +kernel)), by decide +kernel⟩
theorem zkX6_83 : zLk RX6 83 mX2_isClaimOf 2 := ⟨Or.inl zw544, zw547, zw4, by decide +kernel, by decide +kernel, by decide +kernel⟩
theorem zw551 : Cond.code mX2_isLiveClaim.1 mX2_isLiveClaim.2.1 mX2_isLiveClaim.2.2.1 mX2_isLiveClaim.2.2.2.1 ∈ zTb := List.mem_filter.mpr ⟨List.mem_append_right _ (List.mem_of_getElem? (i := 551) (by decide +kernel)), by decide +kernel⟩
theorem zw548 : Cond.methodLink RX6 87 mX2_isLiveClaim.1 ∈ zTb := List.mem_filter.mpr ⟨List.mem_append_right _ (List.mem_of_getElem? (i := 548) (by decide +kernel)), by decide +kernel⟩
theorem zkX6_87 : zLk RX6 87 mX2_isLiveClaim 2 := ⟨Or.inl zw548, zw551, zw4, by decide +kernel, by decide +kernel, by decide +kernel⟩
theorem zw537 : Cond.methodLink RX6 90 mX6_ownsLiveClaim.1 ∈ zTb := List.mem_filter.mpr ⟨List.mem_append_right _ (List.mem_of_getElem? (i := 537) (by decide +kernel)), by decide +kernel⟩
theorem zkX6_90 : zLk RX6 90 mX6_ownsLiveClaim 2 := ⟨Or.inl zw537, zw540, zw3, by decide +kernel, by decide +kernel, by decide +kernel⟩
theorem zw323 : Cond.methodLink RX6 93 mX6_isOn.1 ∈ zTb := List.mem_filter.mpr ⟨List.mem_append_right _ (List.mem_of_getElem? (i := 323) (by decide +kernel)), by decide +kernel⟩
theorem zkX6_93 : zLk RX6 93 mX6_isOn 1 := ⟨Or.inl zw323, zw326, zw3, by decide +kernel, by decide +kernel, by decide +kernel⟩
theorem zw330 : Cond.methodLink RX6 97 mJ9_min_7cf53.1 ∈ zTb := List.mem_filter.mpr ⟨List.mem_append_right _ (List.mem_of_getElem? (i := 330) (by decide +kernel)), by decide +kernel⟩
theorem zkX6_97 : zLk RX6 97 mJ9_min_7cf53 2 := ⟨Or.inl zw330, zw332, zw17, by decide +kernel, by decide +kernel, by decide +kernel⟩
theorem zw322 : Cond.code mX6_areInTouch.1 mX6_areInTouch.2.1 mX6_areInTouch.2.2.1 mX6_areInTouch.2.2.2.1 ∈ zTb := List.mem_filter.mpr ⟨List.mem_append_right _ (List.mem_of_getElem? (i := 322) (by decide +kernel)), by decide +kernel⟩
theorem zw319 : Cond.methodLink RX6 102 mX6_areInTouch.1 ∈ zTb := List.mem_filter.mpr ⟨List.mem_append_right _ (List.mem_of_getElem? (i := 319) (by decide +kernel)), by decide +kernel⟩
theorem zkX6_102 : zLk RX6 102 mX6_areInTouch 2 := ⟨Or.inl zw319, zw322, zw3, by decide +kernel, by decide +kernel, by decide +kernel⟩
theorem zn304 : Cond.methodLinkNest RX6 105 mX7_isIn.1 "ClaimedTasks" ∈ zNs := List.mem_filter.mpr ⟨List.mem_append_right _ (List.mem_of_getElem? (i := 304) (by decide +kernel)), by decide +kernel⟩
theorem zkX6_105 : zLk RX6 105 mX7_isIn 2 := ⟨Or.inr ⟨"ClaimedTasks", zn304⟩, zw306, zw1, by decide +kernel, by decide +kernel, by decide +kernel⟩
theorem zw315 : Cond.methodLink RX6 108 mX6_heardBy.1 ∈ zTb := List.mem_filter.mpr ⟨List.mem_append_right _ (List.mem_of_getElem? (i := 315) (by decide +kernel)), by decide +kernel⟩
theorem zkX6_108 : zLk RX6 108 mX6_heardBy 1 := ⟨Or.inl zw315, zw318, zw3, by decide +kernel, by decide +kernel, by decide +kernel⟩
theorem zw310 : Cond.code mX6_groupOf.1 mX6_groupOf.2.1 mX6_groupOf.2.2.1 mX6_groupOf.2.2.2.1 ∈ zTb := List.mem_filter.mpr ⟨List.mem_append_right _ (List.mem_of_getElem? (i := 310) (by decide +kernel)), by decide +kernel⟩
theorem zw307 : Cond.methodLink RX6 112 mX6_groupOf.1 ∈ zTb := List.mem_filter.mpr ⟨List.mem_append_right _ (List.mem_of_getElem? (i := 307) (by decide +kernel)), by decide +kernel⟩
theorem zkX6_112 : zLk RX6 112 mX6_groupOf 1 := ⟨Or.inl zw307, zw310, zw3, by decide +kernel, by decide +kernel, by decide +kernel⟩
theorem zw311 : Cond.methodLink RX6 115 mX6_passedOn.1 ∈ zTb := List.mem_filter.mpr ⟨List.mem_append_right _ (List.mem_of_getElem? (i := 311) (by decide +kernel)), by decide +kernel⟩
theorem zkX6_115 : zLk RX6 115 mX6_passedOn 1 := ⟨Or.inl zw311, zw314, zw3, by decide +kernel, by decide +kernel, by decide +kernel⟩
theorem zw698 : Cond.methodLink RX6 118 mX6_ownTask.1 ∈ zTb := List.mem_filter.mpr ⟨List.mem_append_right _ (List.mem_of_getElem? (i := 698) (by decide +kernel)), by decide +kernel⟩
theorem zkX6_118 : zLk RX6 118 mX6_ownTask 1 := ⟨Or.inl zw698, zw536, zw3, by decide +kernel, by decide +kernel, by decide +kernel⟩
theorem zw703 : Cond.methodLink RX6 121 mX6_wayToTask.1 ∈ zTb := List.mem_filter.mpr ⟨List.mem_append_right _ (List.mem_of_getElem? (i := 703) (by decide +kernel)), by decide +kernel⟩
theorem zkX6_121 : zLk RX6 121 mX6_wayToTask 2 := ⟨Or.inl zw703, zw634, zw3, by decide +kernel, by decide +kernel, by decide +kernel⟩
theorem zw704 : Cond.methodLink RX6 124 mX2_makeClaim.1 ∈ zTb := List.mem_filter.mpr ⟨List.mem_append_right _ (List.mem_of_getElem? (i := 704) (by decide +kernel)), by decide +kernel⟩
theorem zkX6_124 : zLk RX6 124 mX2_makeClaim 4 := ⟨Or.inl zw704, zw642, zw4, by decide +kernel, by decide +kernel, by decide +kernel⟩
theorem zw486 : Cond.methodLink RX6 131 mX6_isFinished.1 ∈ zTb := List.mem_filter.mpr ⟨List.mem_append_right _ (List.mem_of_getElem? (i := 486) (by decide +kernel)), by decide +kernel⟩
theorem zkX6_131 : zLk RX6 131 mX6_isFinished 1 := ⟨Or.inl zw486, zw489, zw3, by decide +kernel, by decide +kernel, by decide +kernel⟩
theorem zw496 : Cond.code mX6_sumOf.1 mX6_sumOf.2.1 mX6_sumOf.2.2.1 mX6_sumOf.2.2.2.1 ∈ zTb := List.mem_filter.mpr ⟨List.mem_append_right _ (List.mem_of_getElem? (i := 496) (by decide +kernel)), by decide +kernel⟩
theorem zw494 : Cond.methodLink RX6 134 mX6_sumOf.1 ∈ zTb := List.mem_filter.mpr ⟨List.mem_append_right _ (List.mem_of_getElem? (i := 494) (by decide +kernel)), by decide +kernel⟩
theorem zkX6_134 : zLk RX6 134 mX6_sumOf 2 := ⟨Or.inl zw494, zw496, zw3, by decide +kernel, by decide +kernel, by decide +kernel⟩
theorem zw757 : Cond.methodLink RX6 138 mX6_knowers.1 ∈ zTb := List.mem_filter.mpr ⟨List.mem_append_right _ (List.mem_of_getElem? (i := 757) (by decide +kernel)), by decide +kernel⟩
theorem zkX6_138 : zLk RX6 138 mX6_knowers 1 := ⟨Or.inl zw757, zw568, zw3, by decide +kernel, by decide +kernel, by decide +kernel⟩
theorem zw751 : Cond.methodLink RX6 141 mX6_claimants.1 ∈ zTb := List.mem_filter.mpr ⟨List.mem_append_right _ (List.mem_of_getElem? (i := 751) (by decide +kernel)), by decide +kernel⟩
theorem zkX6_141 : zLk RX6 141 mX6_claimants 1 := ⟨Or.inl zw751, zw572, zw3, by decide +kernel, by decide +kernel, by decide +kernel⟩
theorem zw752 : Cond.methodLink RX6 144 mJ6_bitCount_0f7a4.1 ∈ zTb := List.mem_filter.mpr ⟨List.mem_append_right _ (List.mem_of_getElem? (i := 752) (by decide +kernel)), by decide +kernel⟩
theorem zkX6_144 : zLk RX6 144 mJ6_bitCount_0f7a4 1 := ⟨Or.inl zw752, zw683, zw18, by decide +kernel, by decide +kernel, by decide +kernel⟩
theorem zw361 : Cond.code mX7_append.1 mX7_append.2.1 mX7_append.2.2.1 mX7_append.2.2.2.1 ∈ zTb := List.mem_filter.mpr ⟨List.mem_append_right _ (List.mem_of_getElem? (i := 361) (by decide +kernel)), by decide +kernel⟩
theorem zw358 : Cond.methodLink RL 7 mX7_append.1 ∈ zTb := List.mem_filter.mpr ⟨List.mem_append_right _ (List.mem_of_getElem? (i := 358) (by decide +kernel)), by decide +kernel⟩
theorem zkL_7 : zLk RL 7 mX7_append 1 := ⟨Or.inl zw358, zw361, zw1, by decide +kernel, by decide +kernel, by decide +kernel⟩
theorem zw470 : Cond.code mX7_load.1 mX7_load.2.1 mX7_load.2.2.1 mX7_load.2.2.2.1 ∈ zTb := List.mem_filter.mpr ⟨List.mem_append_right _ (List.mem_of_getElem? (i := 470) (by decide +kernel)), by decide +kernel⟩
theorem zw467 : Cond.methodLink RL 17 mX7_load.1 ∈ zTb := List.mem_filter.mpr ⟨List.mem_append_right _ (List.mem_of_getElem? (i := 467) (by decide +kernel)), by decide +kernel⟩
theorem zkL_17 : zLk RL 17 mX7_load 0 := ⟨Or.inl zw467, zw470, zw1, by decide +kernel, by decide +kernel, by decide +kernel⟩
theorem zw481 : Cond.code mX7_about.1 mX7_about.2.1 mX7_about.2.2.1 mX7_about.2.2.2.1 ∈ zTb := List.mem_filter.mpr ⟨List.mem_append_right _ (List.mem_of_getElem? (i := 481) (by decide +kernel)), by decide +kernel⟩
theorem zw478 : Cond.methodLink RL 21 mX7_about.1 ∈ zTb := List.mem_filter.mpr ⟨List.mem_append_right _ (List.mem_of_getElem? (i := 478) (by decide +kernel)), by decide +kernel⟩
theorem zkL_21 : zLk RL 21 mX7_about 1 := ⟨Or.inl zw478, zw481, zw1, by decide +kernel, by decide +kernel, by decide +kernel⟩
theorem zw508 : Cond.code mX7_agent.1 mX7_agent.2.1 mX7_agent.2.2.1 mX7_agent.2.2.2.1 ∈ zTb := List.mem_filter.mpr ⟨List.mem_append_right _ (List.mem_of_getElem? (i := 508) (by decide +kernel)), by decide +kernel⟩
theorem zw505 : Cond.methodLink RL 24 mX7_agent.1 ∈ zTb := List.mem_filter.mpr ⟨List.mem_append_right _ (List.mem_of_getElem? (i := 505) (by decide +kernel)), by decide +kernel⟩
theorem zkL_24 : zLk RL 24 mX7_agent 2 := ⟨Or.inl zw505, zw508, zw1, by decide +kernel, by decide +kernel, by decide +kernel⟩
theorem zw559 : Cond.code mX7_task.1 mX7_task.2.1 mX7_task.2.2.1 mX7_task.2.2.2.1 ∈ zTb := List.mem_filter.mpr ⟨List.mem_append_right _ (List.mem_of_getElem? (i := 559) (by decide +kernel)), by decide +kernel⟩
theorem zw556 : Cond.methodLink RL 30 mX7_task.1 ∈ zTb := List.mem_filter.mpr ⟨List.mem_append_right _ (List.mem_of_getElem? (i := 556) (by decide +kernel)), by decide +kernel⟩
theorem zkL_30 : zLk RL 30 mX7_task 2 := ⟨Or.inl zw556, zw559, zw1, by decide +kernel, by decide +kernel, by decide +kernel⟩
theorem zw579 : Cond.code mX7_note.1 mX7_note.2.1 mX7_note.2.2.1 mX7_note.2.2.2.1 ∈ zTb := List.mem_filter.mpr ⟨List.mem_append_right _ (List.mem_of_getElem? (i := 579) (by decide +kernel)), by decide +kernel⟩
theorem zw576 : Cond.methodLink RL 33 mX7_note.1 ∈ zTb := List.mem_filter.mpr ⟨List.mem_append_right _ (List.mem_of_getElem? (i := 576) (by decide +kernel)), by decide +kernel⟩
theorem zkL_33 : zLk RL 33 mX7_note 3 := ⟨Or.inl zw576, zw579, zw1, by decide +kernel, by decide +kernel, by decide +kernel⟩
theorem zw587 : Cond.code mX7_step.1 mX7_step.2.1 mX7_step.2.2.1 mX7_step.2.2.2.1 ∈ zTb := List.mem_filter.mpr ⟨List.mem_append_right _ (List.mem_of_getElem? (i := 587) (by decide +kernel)), by decide +kernel⟩
theorem zw584 : Cond.methodLink RL 37 mX7_step.1 ∈ zTb := List.mem_filter.mpr ⟨List.mem_append_right _ (List.mem_of_getElem? (i := 584) (by decide +kernel)), by decide +kernel⟩
theorem zkL_37 : zLk RL 37 mX7_step 1 := ⟨Or.inl zw584, zw587, zw1, by decide +kernel, by decide +kernel, by decide +kernel⟩
theorem zw657 : Cond.code mX7_setRange.1 mX7_setRange.2.1 mX7_setRange.2.2.1 mX7_setRange.2.2.2.1 ∈ zTb := List.mem_filter.mpr ⟨List.mem_append_right _ (List.mem_of_getElem? (i := 657) (by decide +kernel)), by decide +kernel⟩
theorem zw654 : Cond.methodLink RL 40 mX7_setRange.1 ∈ zTb := List.mem_filter.mpr ⟨List.mem_append_right _ (List.mem_of_getElem? (i := 654) (by decide +kernel)), by decide +kernel⟩
theorem zkL_40 : zLk RL 40 mX7_setRange 2 := ⟨Or.inl zw654, zw657, zw1, by decide +kernel, by decide +kernel, by decide +kernel⟩
theorem zw664 : Cond.code mX7_put.1 mX7_put.2.1 mX7_put.2.2.1 mX7_put.2.2.2.1 ∈ zTb := List.mem_filter.mpr ⟨List.mem_append_right _ (List.mem_of_getElem? (i := 664) (by decide +kernel)), by decide +kernel⟩
theorem zw661 : Cond.methodLink RL 43 mX7_put.1 ∈ zTb := List.mem_filter.mpr ⟨List.mem_append_right _ (List.mem_of_getElem? (i := 661) (by decide +kernel)), by decide +kernel⟩
theorem zkL_43 : zLk RL 43 mX7_put 3 := ⟨Or.inl zw661, zw664, zw1, by decide +kernel, by decide +kernel, by decide +kernel⟩
theorem zw676 : Cond.code mX7_toggle.1 mX7_toggle.2.1 mX7_toggle.2.2.1 mX7_toggle.2.2.2.1 ∈ zTb := List.mem_filter.mpr ⟨List.mem_append_right _ (List.mem_of_getElem? (i := 676) (by decide +kernel)), by decide +kernel⟩
theorem zw673 : Cond.methodLink RL 46 mX7_toggle.1 ∈ zTb := List.mem_filter.mpr ⟨List.mem_append_right _ (List.mem_of_getElem? (i := 673) (by decide +kernel)), by decide +kernel⟩
theorem zkL_46 : zLk RL 46 mX7_toggle 1 := ⟨Or.inl zw673, zw676, zw1, by decide +kernel, by decide +kernel, by decide +kernel⟩
theorem zw693 : Cond.code mX7_handOver.1 mX7_handOver.2.1 mX7_handOver.2.2.1 mX7_handOver.2.2.2.1 ∈ zTb := List.mem_filter.mpr ⟨List.mem_append_right _ (List.mem_of_getElem? (i := 693) (by decide +kernel)), by decide +kernel⟩
theorem zw690 : Cond.methodLink RL 49 mX7_handOver.1 ∈ zTb := List.mem_filter.mpr ⟨List.mem_append_right _ (List.mem_of_getElem? (i := 690) (by decide +kernel)), by decide +kernel⟩
theorem zkL_49 : zLk RL 49 mX7_handOver 2 := ⟨Or.inl zw690, zw693, zw1, by decide +kernel, by decide +kernel, by decide +kernel⟩
theorem zw711 : Cond.code mX7_drop.1 mX7_drop.2.1 mX7_drop.2.2.1 mX7_drop.2.2.2.1 ∈ zTb := List.mem_filter.mpr ⟨List.mem_append_right _ (List.mem_of_getElem? (i := 711) (by decide +kernel)), by decide +kernel⟩
theorem zw708 : Cond.methodLink RL 52 mX7_drop.1 ∈ zTb := List.mem_filter.mpr ⟨List.mem_append_right _ (List.mem_of_getElem? (i := 708) (by decide +kernel)), by decide +kernel⟩
theorem zkL_52 : zLk RL 52 mX7_drop 1 := ⟨Or.inl zw708, zw711, zw1, by decide +kernel, by decide +kernel, by decide +kernel⟩
theorem zw719 : Cond.code mX7_setLifetime.1 mX7_setLifetime.2.1 mX7_setLifetime.2.2.1 mX7_setLifetime.2.2.2.1 ∈ zTb := List.mem_filter.mpr ⟨List.mem_append_right _ (List.mem_of_getElem? (i := 719) (by decide +kernel)), by decide +kernel⟩
theorem zw716 : Cond.methodLink RL 55 mX7_setLifetime.1 ∈ zTb := List.mem_filter.mpr ⟨List.mem_append_right _ (List.mem_of_getElem? (i := 716) (by decide +kernel)), by decide +kernel⟩
theorem zkL_55 : zLk RL 55 mX7_setLifetime 1 := ⟨Or.inl zw716, zw719, zw1, by decide +kernel, by decide +kernel, by decide +kernel⟩
theorem zw726 : Cond.code mX7_undo.1 mX7_undo.2.1 mX7_undo.2.2.1 mX7_undo.2.2.2.1 ∈ zTb := List.mem_filter.mpr ⟨List.mem_append_right _ (List.mem_of_getElem? (i := 726) (by decide +kernel)), by decide +kernel⟩
theorem zw723 : Cond.methodLink RL 58 mX7_undo.1 ∈ zTb := List.mem_filter.mpr ⟨List.mem_append_right _ (List.mem_of_getElem? (i := 723) (by decide +kernel)), by decide +kernel⟩
theorem zkL_58 : zLk RL 58 mX7_undo 0 := ⟨Or.inl zw723, zw726, zw1, by decide +kernel, by decide +kernel, by decide +kernel⟩
theorem zw737 : Cond.code mX7_hops.1 mX7_hops.2.1 mX7_hops.2.2.1 mX7_hops.2.2.2.1 ∈ zTb := List.mem_filter.mpr ⟨List.mem_append_right _ (List.mem_of_getElem? (i := 737) (by decide +kernel)), by decide +kernel⟩
theorem zw734 : Cond.methodLink RL 61 mX7_hops.1 ∈ zTb := List.mem_filter.mpr ⟨List.mem_append_right _ (List.mem_of_getElem? (i := 734) (by decide +kernel)), by decide +kernel⟩
theorem zkL_61 : zLk RL 61 mX7_hops 2 := ⟨Or.inl zw734, zw737, zw1, by decide +kernel, by decide +kernel, by decide +kernel⟩
theorem zw746 : Cond.code mX7_conflicts.1 mX7_conflicts.2.1 mX7_conflicts.2.2.1 mX7_conflicts.2.2.2.1 ∈ zTb := List.mem_filter.mpr ⟨List.mem_append_right _ (List.mem_of_getElem? (i := 746) (by decide +kernel)), by decide +kernel⟩
theorem zw743 : Cond.methodLink RL 64 mX7_conflicts.1 ∈ zTb := List.mem_filter.mpr ⟨List.mem_append_right _ (List.mem_of_getElem? (i := 743) (by decide +kernel)), by decide +kernel⟩
theorem zkL_64 : zLk RL 64 mX7_conflicts 1 := ⟨Or.inl zw743, zw746, zw1, by decide +kernel, by decide +kernel, by decide +kernel⟩
theorem zw768 : Cond.code mX7_finishedAfter.1 mX7_finishedAfter.2.1 mX7_finishedAfter.2.2.1 mX7_finishedAfter.2.2.2.1 ∈ zTb := List.mem_filter.mpr ⟨List.mem_append_right _ (List.mem_of_getElem? (i := 768) (by decide +kernel)), by decide +kernel⟩
theorem zw765 : Cond.methodLink RL 67 mX7_finishedAfter.1 ∈ zTb := List.mem_filter.mpr ⟨List.mem_append_right _ (List.mem_of_getElem? (i := 765) (by decide +kernel)), by decide +kernel⟩
theorem zkL_67 : zLk RL 67 mX7_finishedAfter 1 := ⟨Or.inl zw765, zw768, zw1, by decide +kernel, by decide +kernel, by decide +kernel⟩
theorem zw775 : Cond.code mX7_knownAfter.1 mX7_knownAfter.2.1 mX7_knownAfter.2.2.1 mX7_knownAfter.2.2.2.1 ∈ zTb := List.mem_filter.mpr ⟨List.mem_append_right _ (List.mem_of_getElem? (i := 775) (by decide +kernel)), by decide +kernel⟩
theorem zw772 : Cond.methodLink RL 70 mX7_knownAfter.1 ∈ zTb := List.mem_filter.mpr ⟨List.mem_append_right _ (List.mem_of_getElem? (i := 772) (by decide +kernel)), by decide +kernel⟩
theorem zkL_70 : zLk RL 70 mX7_knownAfter 1 := ⟨Or.inl zw772, zw775, zw1, by decide +kernel, by decide +kernel, by decide +kernel⟩
theorem zw786 : Cond.code mX7_wastedIf.1 mX7_wastedIf.2.1 mX7_wastedIf.2.2.1 mX7_wastedIf.2.2.2.1 ∈ zTb := List.mem_filter.mpr ⟨List.mem_append_right _ (List.mem_of_getElem? (i := 786) (by decide +kernel)), by decide +kernel⟩
theorem zw783 : Cond.methodLink RL 73 mX7_wastedIf.1 ∈ zTb := List.mem_filter.mpr ⟨List.mem_append_right _ (List.mem_of_getElem? (i := 783) (by decide +kernel)), by decide +kernel⟩
theorem zkL_73 : zLk RL 73 mX7_wastedIf 2 := ⟨Or.inl zw783, zw786, zw1, by decide +kernel, by decide +kernel, by decide +kernel⟩
theorem zw793 : Cond.code mX7_worstLoss.1 mX7_worstLoss.2.1 mX7_worstLoss.2.2.1 mX7_worstLoss.2.2.2.1 ∈ zTb := List.mem_filter.mpr ⟨List.mem_append_right _ (List.mem_of_getElem? (i := 793) (by decide +kernel)), by decide +kernel⟩
theorem zw790 : Cond.methodLink RL 76 mX7_worstLoss.1 ∈ zTb := List.mem_filter.mpr ⟨List.mem_append_right _ (List.mem_of_getElem? (i := 790) (by decide +kernel)), by decide +kernel⟩
theorem zkL_76 : zLk RL 76 mX7_worstLoss 1 := ⟨Or.inl zw790, zw793, zw1, by decide +kernel, by decide +kernel, by decide +kernel⟩
theorem zw808 : Cond.code mX7_bestShare.1 mX7_bestShare.2.1 mX7_bestShare.2.2.1 mX7_bestShare.2.2.2.1 ∈ zTb := List.mem_filter.mpr ⟨List.mem_append_right _ (List.mem_of_getElem? (i := 808) (by decide +kernel)), by decide +kernel⟩
theorem zw805 : Cond.methodLink RL 79 mX7_bestShare.1 ∈ zTb := List.mem_filter.mpr ⟨List.mem_append_right _ (List.mem_of_getElem? (i := 805) (by decide +kernel)), by decide +kernel⟩
theorem zkL_79 : zLk RL 79 mX7_bestShare 1 := ⟨Or.inl zw805, zw808, zw1, by decide +kernel, by decide +kernel, by decide +kernel⟩
theorem zw845 : Cond.code mX7_runScript.1 mX7_runScript.2.1 mX7_runScript.2.2.1 mX7_runScript.2.2.2.1 ∈ zTb := List.mem_filter.mpr ⟨List.mem_append_right _ (List.mem_of_getElem? (i := 845) (by decide +kernel)), by decide +kernel⟩
theorem zw842 : Cond.methodLink RL 82 mX7_runScript.1 ∈ zTb := List.mem_filter.mpr ⟨List.mem_append_right _ (List.mem_of_getElem? (i := 842) (by decide +kernel)), by decide +kernel⟩
theorem zkL_82 : zLk RL 82 mX7_runScript 2 := ⟨Or.inl zw842, zw845, zw1, by decide +kernel, by decide +kernel, by decide +kernel⟩
theorem zw870 : Cond.code mX7_simulate.1 mX7_simulate.2.1 mX7_simulate.2.2.1 mX7_simulate.2.2.2.1 ∈ zTb := List.mem_filter.mpr ⟨List.mem_append_right _ (List.mem_of_getElem? (i := 870) (by decide +kernel)), by decide +kernel⟩
theorem zw867 : Cond.methodLink RL 86 mX7_simulate.1 ∈ zTb := List.mem_filter.mpr ⟨List.mem_append_right _ (List.mem_of_getElem? (i := 867) (by decide +kernel)), by decide +kernel⟩
theorem zkL_86 : zLk RL 86 mX7_simulate 2 := ⟨Or.inl zw867, zw870, zw1, by decide +kernel, by decide +kernel, by decide +kernel⟩
theorem zw882 : Cond.code mX7_save.1 mX7_save.2.1 mX7_save.2.2.1 mX7_save.2.2.2.1 ∈ zTb := List.mem_filter.mpr ⟨List.mem_append_right _ (List.mem_of_getElem? (i := 882) (by decide +kernel)), by decide +kernel⟩
theorem zw879 : Cond.methodLink RL 90 mX7_save.1 ∈ zTb := List.mem_filter.mpr ⟨List.mem_append_right _ (List.mem_of_getElem? (i := 879) (by decide +kernel)), by decide +kernel⟩
theorem zkL_90 : zLk RL 90 mX7_save 1 := ⟨Or.inl zw879, zw882, zw1, by decide +kernel, by decide +kernel, by decide +kernel⟩
theorem zw889 : Cond.code mX7_restore.1 mX7_restore.2.1 mX7_restore.2.2.1 mX7_restore.2.2.2.1 ∈ zTb := List.mem_filter.mpr ⟨List.mem_append_right _ (List.mem_of_getElem? (i := 889) (by decide +kernel)), by decide +kernel⟩
theorem zw886 : Cond.methodLink RL 93 mX7_restore.1 ∈ zTb := List.mem_filter.mpr ⟨List.mem_append_right _ (List.mem_of_getElem? (i := 886) (by decide +kernel)), by decide +kernel⟩
theorem zkL_93 : zLk RL 93 mX7_restore 1 := ⟨Or.inl zw886, zw889, zw1, by decide +kernel, by decide +kernel, by decide +kernel⟩
theorem zw23 : Cond.code mX7_init.1 mX7_init.2.1 mX7_init.2.2.1 mX7_init.2.2.2.1 ∈ zTb := List.mem_filter.mpr ⟨List.mem_append_right _ (List.mem_of_getElem? (i := 23) (by decide +kernel)), by decide +kernel⟩
theorem zw21 : Cond.methodLink RL 96 mX7_init.1 ∈ zTb := List.mem_filter.mpr ⟨List.mem_append_right _ (List.mem_of_getElem? (i := 21) (by decide +kernel)), by decide +kernel⟩
theorem zkL_96 : zLk RL 96 mX7_init 0 := ⟨Or.inl zw21, zw23, zw1, by decide +kernel, by decide +kernel, by decide +kernel⟩
theorem zw894 : Cond.code mX8_init.1 mX8_init.2.1 mX8_init.2.2.1 mX8_init.2.2.2.1 ∈ zTb := List.mem_filter.mpr ⟨List.mem_append_right _ (List.mem_of_getElem? (i := 894) (by decide +kernel)), by decide +kernel⟩
theorem zw9 : Cond.initialized RX8 ∈ zTb := List.mem_filter.mpr ⟨List.mem_append_right _ (List.mem_of_getElem? (i := 9) (by decide +kernel)), by decide +kernel⟩
theorem zw892 : Cond.methodLink RL 99 mX8_init.1 ∈ zTb := List.mem_filter.mpr ⟨List.mem_append_right _ (List.mem_of_getElem? (i := 892) (by decide +kernel)), by decide +kernel⟩
theorem zkL_99 : zLk RL 99 mX8_init 0 := ⟨Or.inl zw892, zw894, zw9, by decide +kernel, by decide +kernel, by decide +kernel⟩
theorem zw950 : Cond.code mX8_append.1 mX8_append.2.1 mX8_append.2.2.1 mX8_append.2.2.2.1 ∈ zTb := List.mem_filter.mpr ⟨List.mem_append_right _ (List.mem_of_getElem? (i := 950) (by decide +kernel)), by decide +kernel⟩
theorem zw947 : Cond.methodLink RL 105 mX8_append.1 ∈ zTb := List.mem_filter.mpr ⟨List.mem_append_right _ (List.mem_of_getElem? (i := 947) (by decide +kernel)), by decide +kernel⟩
theorem zkL_105 : zLk RL 105 mX8_append 1 := ⟨Or.inl zw947, zw950, zw9, by decide +kernel, by decide +kernel, by decide +kernel⟩
theorem zw946 : Cond.code mX8_thrown.1 mX8_thrown.2.1 mX8_thrown.2.2.1 mX8_thrown.2.2.2.1 ∈ zTb := List.mem_filter.mpr ⟨List.mem_append_right _ (List.mem_of_getElem? (i := 946) (by decide +kernel)), by decide +kernel⟩
theorem zw943 : Cond.methodLink RL 106 mX8_thrown.1 ∈ zTb := List.mem_filter.mpr ⟨List.mem_append_right _ (List.mem_of_getElem? (i := 943) (by decide +kernel)), by decide +kernel⟩
theorem zkL_106 : zLk RL 106 mX8_thrown 0 := ⟨Or.inl zw943, zw946, zw9, by decide +kernel, by decide +kernel, by decide +kernel⟩
theorem zw243 : Cond.code mX7_clearText.1 mX7_clearText.2.1 mX7_clearText.2.2.1 mX7_clearText.2.2.2.1 ∈ zTb := List.mem_filter.mpr ⟨List.mem_append_right _ (List.mem_of_getElem? (i := 243) (by decide +kernel)), by decide +kernel⟩
theorem zw240 : Cond.methodLink RL 109 mX7_clearText.1 ∈ zTb := List.mem_filter.mpr ⟨List.mem_append_right _ (List.mem_of_getElem? (i := 240) (by decide +kernel)), by decide +kernel⟩
theorem zkL_109 : zLk RL 109 mX7_clearText 0 := ⟨Or.inl zw240, zw243, zw1, by decide +kernel, by decide +kernel, by decide +kernel⟩
theorem zw962 : Cond.code mX8_clearText.1 mX8_clearText.2.1 mX8_clearText.2.2.1 mX8_clearText.2.2.2.1 ∈ zTb := List.mem_filter.mpr ⟨List.mem_append_right _ (List.mem_of_getElem? (i := 962) (by decide +kernel)), by decide +kernel⟩
theorem zw959 : Cond.methodLink RL 112 mX8_clearText.1 ∈ zTb := List.mem_filter.mpr ⟨List.mem_append_right _ (List.mem_of_getElem? (i := 959) (by decide +kernel)), by decide +kernel⟩
theorem zkL_112 : zLk RL 112 mX8_clearText 0 := ⟨Or.inl zw959, zw962, zw9, by decide +kernel, by decide +kernel, by decide +kernel⟩
theorem zw247 : Cond.code mX7_errorPosition.1 mX7_errorPosition.2.1 mX7_errorPosition.2.2.1 mX7_errorPosition.2.2.2.1 ∈ zTb := List.mem_filter.mpr ⟨List.mem_append_right _ (List.mem_of_getElem? (i := 247) (by decide +kernel)), by decide +kernel⟩
theorem zw244 : Cond.methodLink RL 113 mX7_errorPosition.1 ∈ zTb := List.mem_filter.mpr ⟨List.mem_append_right _ (List.mem_of_getElem? (i := 244) (by decide +kernel)), by decide +kernel⟩
theorem zkL_113 : zLk RL 113 mX7_errorPosition 0 := ⟨Or.inl zw244, zw247, zw1, by decide +kernel, by decide +kernel, by decide +kernel⟩
theorem zw966 : Cond.code mX8_errorPosition.1 mX8_errorPosition.2.1 mX8_errorPosition.2.2.1 mX8_errorPosition.2.2.2.1 ∈ zTb := List.mem_filter.mpr ⟨List.mem_append_right _ (List.mem_of_getElem? (i := 966) (by decide +kernel)), by decide +kernel⟩
theorem zw963 : Cond.methodLink RL 116 mX8_errorPosition.1 ∈ zTb := List.mem_filter.mpr ⟨List.mem_append_right _ (List.mem_of_getElem? (i := 963) (by decide +kernel)), by decide +kernel⟩
theorem zkL_116 : zLk RL 116 mX8_errorPosition 0 := ⟨Or.inl zw963, zw966, zw9, by decide +kernel, by decide +kernel, by decide +kernel⟩
theorem zw996 : Cond.code mX8_load.1 mX8_load.2.1 mX8_load.2.2.1 mX8_load.2.2.2.1 ∈ zTb := List.mem_filter.mpr ⟨List.mem_append_right _ (List.mem_of_getElem? (i := 996) (by decide +kernel)), by decide +kernel⟩
theorem zw993 : Cond.methodLink RL 120 mX8_load.1 ∈ zTb := List.mem_filter.mpr ⟨List.mem_append_right _ (List.mem_of_getElem? (i := 993) (by decide +kernel)), by decide +kernel⟩
theorem zkL_120 : zLk RL 120 mX8_load 0 := ⟨Or.inl zw993, zw996, zw9, by decide +kernel, by decide +kernel, by decide +kernel⟩
theorem zw1003 : Cond.code mX8_about.1 mX8_about.2.1 mX8_about.2.2.1 mX8_about.2.2.2.1 ∈ zTb := List.mem_filter.mpr ⟨List.mem_append_right _ (List.mem_of_getElem? (i := 1003) (by decide +kernel)), by decide +kernel⟩
theorem zw1000 : Cond.methodLink RL 123 mX8_about.1 ∈ zTb := List.mem_filter.mpr ⟨List.mem_append_right _ (List.mem_of_getElem? (i := 1000) (by decide +kernel)), by decide +kernel⟩
theorem zkL_123 : zLk RL 123 mX8_about 1 := ⟨Or.inl zw1000, zw1003, zw9, by decide +kernel, by decide +kernel, by decide +kernel⟩
theorem zw1020 : Cond.code mX8_agent.1 mX8_agent.2.1 mX8_agent.2.2.1 mX8_agent.2.2.2.1 ∈ zTb := List.mem_filter.mpr ⟨List.mem_append_right _ (List.mem_of_getElem? (i := 1020) (by decide +kernel)), by decide +kernel⟩
theorem zw1017 : Cond.methodLink RL 127 mX8_agent.1 ∈ zTb := List.mem_filter.mpr ⟨List.mem_append_right _ (List.mem_of_getElem? (i := 1017) (by decide +kernel)), by decide +kernel⟩
theorem zkL_127 : zLk RL 127 mX8_agent 2 := ⟨Or.inl zw1017, zw1020, zw9, by decide +kernel, by decide +kernel, by decide +kernel⟩
theorem zw1049 : Cond.code mX8_task.1 mX8_task.2.1 mX8_task.2.2.1 mX8_task.2.2.2.1 ∈ zTb := List.mem_filter.mpr ⟨List.mem_append_right _ (List.mem_of_getElem? (i := 1049) (by decide +kernel)), by decide +kernel⟩
theorem zw1046 : Cond.methodLink RL 130 mX8_task.1 ∈ zTb := List.mem_filter.mpr ⟨List.mem_append_right _ (List.mem_of_getElem? (i := 1046) (by decide +kernel)), by decide +kernel⟩
theorem zkL_130 : zLk RL 130 mX8_task 2 := ⟨Or.inl zw1046, zw1049, zw9, by decide +kernel, by decide +kernel, by decide +kernel⟩
theorem zw1061 : Cond.code mX8_note_.1 mX8_note_.2.1 mX8_note_.2.2.1 mX8_note_.2.2.2.1 ∈ zTb := List.mem_filter.mpr ⟨List.mem_append_right _ (List.mem_of_getElem? (i := 1061) (by decide +kernel)), by decide +kernel⟩
theorem zw1058 : Cond.methodLink RL 134 mX8_note_.1 ∈ zTb := List.mem_filter.mpr ⟨List.mem_append_right _ (List.mem_of_getElem? (i := 1058) (by decide +kernel)), by decide +kernel⟩
theorem zkL_134 : zLk RL 134 mX8_note_ 3 := ⟨Or.inl zw1058, zw1061, zw9, by decide +kernel, by decide +kernel, by decide +kernel⟩
theorem zw1066 : Cond.code mX8_step.1 mX8_step.2.1 mX8_step.2.2.1 mX8_step.2.2.2.1 ∈ zTb := List.mem_filter.mpr ⟨List.mem_append_right _ (List.mem_of_getElem? (i := 1066) (by decide +kernel)), by decide +kernel⟩
theorem zw1063 : Cond.methodLink RL 137 mX8_step.1 ∈ zTb := List.mem_filter.mpr ⟨List.mem_append_right _ (List.mem_of_getElem? (i := 1063) (by decide +kernel)), by decide +kernel⟩
theorem zkL_137 : zLk RL 137 mX8_step 1 := ⟨Or.inl zw1063, zw1066, zw9, by decide +kernel, by decide +kernel, by decide +kernel⟩
theorem zw1098 : Cond.code mX8_setRange.1 mX8_setRange.2.1 mX8_setRange.2.2.1 mX8_setRange.2.2.2.1 ∈ zTb := List.mem_filter.mpr ⟨List.mem_append_right _ (List.mem_of_getElem? (i := 1098) (by decide +kernel)), by decide +kernel⟩
theorem zw1095 : Cond.methodLink RL 140 mX8_setRange.1 ∈ zTb := List.mem_filter.mpr ⟨List.mem_append_right _ (List.mem_of_getElem? (i := 1095) (by decide +kernel)), by decide +kernel⟩
theorem zkL_140 : zLk RL 140 mX8_setRange 2 := ⟨Or.inl zw1095, zw1098, zw9, by decide +kernel, by decide +kernel, by decide +kernel⟩
theorem zw1103 : Cond.code mX8_put.1 mX8_put.2.1 mX8_put.2.2.1 mX8_put.2.2.2.1 ∈ zTb := List.mem_filter.mpr ⟨List.mem_append_right _ (List.mem_of_getElem? (i := 1103) (by decide +kernel)), by decide +kernel⟩
theorem zw1100 : Cond.methodLink RL 143 mX8_put.1 ∈ zTb := List.mem_filter.mpr ⟨List.mem_append_right _ (List.mem_of_getElem? (i := 1100) (by decide +kernel)), by decide +kernel⟩
theorem zkL_143 : zLk RL 143 mX8_put 3 := ⟨Or.inl zw1100, zw1103, zw9, by decide +kernel, by decide +kernel, by decide +kernel⟩
theorem zw1111 : Cond.code mX8_toggle.1 mX8_toggle.2.1 mX8_toggle.2.2.1 mX8_toggle.2.2.2.1 ∈ zTb := List.mem_filter.mpr ⟨List.mem_append_right _ (List.mem_of_getElem? (i := 1111) (by decide +kernel)), by decide +kernel⟩
theorem zw1108 : Cond.methodLink RL 146 mX8_toggle.1 ∈ zTb := List.mem_filter.mpr ⟨List.mem_append_right _ (List.mem_of_getElem? (i := 1108) (by decide +kernel)), by decide +kernel⟩
theorem zkL_146 : zLk RL 146 mX8_toggle 1 := ⟨Or.inl zw1108, zw1111, zw9, by decide +kernel, by decide +kernel, by decide +kernel⟩
theorem zw1118 : Cond.code mX8_handOver.1 mX8_handOver.2.1 mX8_handOver.2.2.1 mX8_handOver.2.2.2.1 ∈ zTb := List.mem_filter.mpr ⟨List.mem_append_right _ (List.mem_of_getElem? (i := 1118) (by decide +kernel)), by decide +kernel⟩
theorem zw1115 : Cond.methodLink RL 149 mX8_handOver.1 ∈ zTb := List.mem_filter.mpr ⟨List.mem_append_right _ (List.mem_of_getElem? (i := 1115) (by decide +kernel)), by decide +kernel⟩
theorem zkL_149 : zLk RL 149 mX8_handOver 2 := ⟨Or.inl zw1115, zw1118, zw9, by decide +kernel, by decide +kernel, by decide +kernel⟩
theorem zw1128 : Cond.code mX8_drop.1 mX8_drop.2.1 mX8_drop.2.2.1 mX8_drop.2.2.2.1 ∈ zTb := List.mem_filter.mpr ⟨List.mem_append_right _ (List.mem_of_getElem? (i := 1128) (by decide +kernel)), by decide +kernel⟩
theorem zw1125 : Cond.methodLink RL 152 mX8_drop.1 ∈ zTb := List.mem_filter.mpr ⟨List.mem_append_right _ (List.mem_of_getElem? (i := 1125) (by decide +kernel)), by decide +kernel⟩
theorem zkL_152 : zLk RL 152 mX8_drop 1 := ⟨Or.inl zw1125, zw1128, zw9, by decide +kernel, by decide +kernel, by decide +kernel⟩
theorem zw1135 : Cond.code mX8_setLifetime.1 mX8_setLifetime.2.1 mX8_setLifetime.2.2.1 mX8_setLifetime.2.2.2.1 ∈ zTb := List.mem_filter.mpr ⟨List.mem_append_right _ (List.mem_of_getElem? (i := 1135) (by decide +kernel)), by decide +kernel⟩
theorem zw1132 : Cond.methodLink RL 155 mX8_setLifetime.1 ∈ zTb := List.mem_filter.mpr ⟨List.mem_append_right _ (List.mem_of_getElem? (i := 1132) (by decide +kernel)), by decide +kernel⟩
theorem zkL_155 : zLk RL 155 mX8_setLifetime 1 := ⟨Or.inl zw1132, zw1135, zw9, by decide +kernel, by decide +kernel, by decide +kernel⟩
theorem zw1140 : Cond.code mX8_undo.1 mX8_undo.2.1 mX8_undo.2.2.1 mX8_undo.2.2.2.1 ∈ zTb := List.mem_filter.mpr ⟨List.mem_append_right _ (List.mem_of_getElem? (i := 1140) (by decide +kernel)), by decide +kernel⟩
theorem zw1137 : Cond.methodLink RL 158 mX8_undo.1 ∈ zTb := List.mem_filter.mpr ⟨List.mem_append_right _ (List.mem_of_getElem? (i := 1137) (by decide +kernel)), by decide +kernel⟩
theorem zkL_158 : zLk RL 158 mX8_undo 0 := ⟨Or.inl zw1137, zw1140, zw9, by decide +kernel, by decide +kernel, by decide +kernel⟩
theorem zw1144 : Cond.code mX8_hops.1 mX8_hops.2.1 mX8_hops.2.2.1 mX8_hops.2.2.2.1 ∈ zTb := List.mem_filter.mpr ⟨List.mem_append_right _ (List.mem_of_getElem? (i := 1144) (by decide +kernel)), by decide +kernel⟩
theorem zw1141 : Cond.methodLink RL 161 mX8_hops.1 ∈ zTb := List.mem_filter.mpr ⟨List.mem_append_right _ (List.mem_of_getElem? (i := 1141) (by decide +kernel)), by decide +kernel⟩
theorem zkL_161 : zLk RL 161 mX8_hops 2 := ⟨Or.inl zw1141, zw1144, zw9, by decide +kernel, by decide +kernel, by decide +kernel⟩
theorem zw299 : Cond.code mX7_groups.1 mX7_groups.2.1 mX7_groups.2.2.1 mX7_groups.2.2.2.1 ∈ zTb := List.mem_filter.mpr ⟨List.mem_append_right _ (List.mem_of_getElem? (i := 299) (by decide +kernel)), by decide +kernel⟩
theorem zw296 : Cond.methodLink RL 162 mX7_groups.1 ∈ zTb := List.mem_filter.mpr ⟨List.mem_append_right _ (List.mem_of_getElem? (i := 296) (by decide +kernel)), by decide +kernel⟩
theorem zkL_162 : zLk RL 162 mX7_groups 0 := ⟨Or.inl zw296, zw299, zw1, by decide +kernel, by decide +kernel, by decide +kernel⟩
theorem zw1152 : Cond.code mX8_groups.1 mX8_groups.2.1 mX8_groups.2.2.1 mX8_groups.2.2.2.1 ∈ zTb := List.mem_filter.mpr ⟨List.mem_append_right _ (List.mem_of_getElem? (i := 1152) (by decide +kernel)), by decide +kernel⟩
theorem zw1149 : Cond.methodLink RL 165 mX8_groups.1 ∈ zTb := List.mem_filter.mpr ⟨List.mem_append_right _ (List.mem_of_getElem? (i := 1149) (by decide +kernel)), by decide +kernel⟩
theorem zkL_165 : zLk RL 165 mX8_groups 0 := ⟨Or.inl zw1149, zw1152, zw9, by decide +kernel, by decide +kernel, by decide +kernel⟩
theorem zw336 : Cond.code mX7_rangeNeeded.1 mX7_rangeNeeded.2.1 mX7_rangeNeeded.2.2.1 mX7_rangeNeeded.2.2.2.1 ∈ zTb := List.mem_filter.mpr ⟨List.mem_append_right _ (List.mem_of_getElem? (i := 336) (by decide +kernel)), by decide +kernel⟩
theorem zw333 : Cond.methodLink RL 166 mX7_rangeNeeded.1 ∈ zTb := List.mem_filter.mpr ⟨List.mem_append_right _ (List.mem_of_getElem? (i := 333) (by decide +kernel)), by decide +kernel⟩
theorem zkL_166 : zLk RL 166 mX7_rangeNeeded 0 := ⟨Or.inl zw333, zw336, zw1, by decide +kernel, by decide +kernel, by decide +kernel⟩
theorem zw1160 : Cond.code mX8_rangeNeeded.1 mX8_rangeNeeded.2.1 mX8_rangeNeeded.2.2.1 mX8_rangeNeeded.2.2.2.1 ∈ zTb := List.mem_filter.mpr ⟨List.mem_append_right _ (List.mem_of_getElem? (i := 1160) (by decide +kernel)), by decide +kernel⟩
theorem zw1157 : Cond.methodLink RL 169 mX8_rangeNeeded.1 ∈ zTb := List.mem_filter.mpr ⟨List.mem_append_right _ (List.mem_of_getElem? (i := 1157) (by decide +kernel)), by decide +kernel⟩
theorem zkL_169 : zLk RL 169 mX8_rangeNeeded 0 := ⟨Or.inl zw1157, zw1160, zw9, by decide +kernel, by decide +kernel, by decide +kernel⟩
theorem zw1168 : Cond.code mX8_conflicts.1 mX8_conflicts.2.1 mX8_conflicts.2.2.1 mX8_conflicts.2.2.2.1 ∈ zTb := List.mem_filter.mpr ⟨List.mem_append_right _ (List.mem_of_getElem? (i := 1168) (by decide +kernel)), by decide +kernel⟩
theorem zw1165 : Cond.methodLink RL 172 mX8_conflicts.1 ∈ zTb := List.mem_filter.mpr ⟨List.mem_append_right _ (List.mem_of_getElem? (i := 1165) (by decide +kernel)), by decide +kernel⟩
theorem zkL_172 : zLk RL 172 mX8_conflicts 1 := ⟨Or.inl zw1165, zw1168, zw9, by decide +kernel, by decide +kernel, by decide +kernel⟩
theorem zw1176 : Cond.code mX8_finishedAfter.1 mX8_finishedAfter.2.1 mX8_finishedAfter.2.2.1 mX8_finishedAfter.2.2.2.1 ∈ zTb := List.mem_filter.mpr ⟨List.mem_append_right _ (List.mem_of_getElem? (i := 1176) (by decide +kernel)), by decide +kernel⟩
theorem zw1173 : Cond.methodLink RL 175 mX8_finishedAfter.1 ∈ zTb := List.mem_filter.mpr ⟨List.mem_append_right _ (List.mem_of_getElem? (i := 1173) (by decide +kernel)), by decide +kernel⟩
theorem zkL_175 : zLk RL 175 mX8_finishedAfter 1 := ⟨Or.inl zw1173, zw1176, zw9, by decide +kernel, by decide +kernel, by decide +kernel⟩
theorem zw1181 : Cond.code mX8_knownAfter.1 mX8_knownAfter.2.1 mX8_knownAfter.2.2.1 mX8_knownAfter.2.2.2.1 ∈ zTb := List.mem_filter.mpr ⟨List.mem_append_right _ (List.mem_of_getElem? (i := 1181) (by decide +kernel)), by decide +kernel⟩
theorem zw1178 : Cond.methodLink RL 178 mX8_knownAfter.1 ∈ zTb := List.mem_filter.mpr ⟨List.mem_append_right _ (List.mem_of_getElem? (i := 1178) (by decide +kernel)), by decide +kernel⟩
theorem zkL_178 : zLk RL 178 mX8_knownAfter 1 := ⟨Or.inl zw1178, zw1181, zw9, by decide +kernel, by decide +kernel, by decide +kernel⟩
theorem zw1188 : Cond.code mX8_wastedIf.1 mX8_wastedIf.2.1 mX8_wastedIf.2.2.1 mX8_wastedIf.2.2.2.1 ∈ zTb := List.mem_filter.mpr ⟨List.mem_append_right _ (List.mem_of_getElem? (i := 1188) (by decide +kernel)), by decide +kernel⟩
theorem zw1185 : Cond.methodLink RL 181 mX8_wastedIf.1 ∈ zTb := List.mem_filter.mpr ⟨List.mem_append_right _ (List.mem_of_getElem? (i := 1185) (by decide +kernel)), by decide +kernel⟩
theorem zkL_181 : zLk RL 181 mX8_wastedIf 2 := ⟨Or.inl zw1185, zw1188, zw9, by decide +kernel, by decide +kernel, by decide +kernel⟩
theorem zw1192 : Cond.code mX8_worstLoss.1 mX8_worstLoss.2.1 mX8_worstLoss.2.2.1 mX8_worstLoss.2.2.2.1 ∈ zTb := List.mem_filter.mpr ⟨List.mem_append_right _ (List.mem_of_getElem? (i := 1192) (by decide +kernel)), by decide +kernel⟩
theorem zw1189 : Cond.methodLink RL 184 mX8_worstLoss.1 ∈ zTb := List.mem_filter.mpr ⟨List.mem_append_right _ (List.mem_of_getElem? (i := 1189) (by decide +kernel)), by decide +kernel⟩
theorem zkL_184 : zLk RL 184 mX8_worstLoss 1 := ⟨Or.inl zw1189, zw1192, zw9, by decide +kernel, by decide +kernel, by decide +kernel⟩
theorem zw1199 : Cond.code mX8_bestShare.1 mX8_bestShare.2.1 mX8_bestShare.2.2.1 mX8_bestShare.2.2.2.1 ∈ zTb := List.mem_filter.mpr ⟨List.mem_append_right _ (List.mem_of_getElem? (i := 1199) (by decide +kernel)), by decide +kernel⟩
theorem zw1196 : Cond.methodLink RL 187 mX8_bestShare.1 ∈ zTb := List.mem_filter.mpr ⟨List.mem_append_right _ (List.mem_of_getElem? (i := 1196) (by decide +kernel)), by decide +kernel⟩
theorem zkL_187 : zLk RL 187 mX8_bestShare 1 := ⟨Or.inl zw1196, zw1199, zw9, by decide +kernel, by decide +kernel, by decide +kernel⟩
theorem zw1211 : Cond.code mX8_runScript.1 mX8_runScript.2.1 mX8_runScript.2.2.1 mX8_runScript.2.2.2.1 ∈ zTb := List.mem_filter.mpr ⟨List.mem_append_right _ (List.mem_of_getElem? (i := 1211) (by decide +kernel)), by decide +kernel⟩
theorem zw1208 : Cond.methodLink RL 193 mX8_runScript.1 ∈ zTb := List.mem_filter.mpr ⟨List.mem_append_right _ (List.mem_of_getElem? (i := 1208) (by decide +kernel)), by decide +kernel⟩
theorem zkL_193 : zLk RL 193 mX8_runScript 2 := ⟨Or.inl zw1208, zw1211, zw9, by decide +kernel, by decide +kernel, by decide +kernel⟩
theorem zw1224 : Cond.code mX8_simulate.1 mX8_simulate.2.1 mX8_simulate.2.2.1 mX8_simulate.2.2.2.1 ∈ zTb := List.mem_filter.mpr ⟨List.mem_append_right _ (List.mem_of_getElem? (i := 1224) (by decide +kernel)), by decide +kernel⟩
theorem zw1221 : Cond.methodLink RL 197 mX8_simulate.1 ∈ zTb := List.mem_filter.mpr ⟨List.mem_append_right _ (List.mem_of_getElem? (i := 1221) (by decide +kernel)), by decide +kernel⟩
theorem zkL_197 : zLk RL 197 mX8_simulate 2 := ⟨Or.inl zw1221, zw1224, zw9, by decide +kernel, by decide +kernel, by decide +kernel⟩
theorem zw1231 : Cond.code mX8_save.1 mX8_save.2.1 mX8_save.2.2.1 mX8_save.2.2.2.1 ∈ zTb := List.mem_filter.mpr ⟨List.mem_append_right _ (List.mem_of_getElem? (i := 1231) (by decide +kernel)), by decide +kernel⟩
theorem zw1228 : Cond.methodLink RL 200 mX8_save.1 ∈ zTb := List.mem_filter.mpr ⟨List.mem_append_right _ (List.mem_of_getElem? (i := 1228) (by decide +kernel)), by decide +kernel⟩
theorem zkL_200 : zLk RL 200 mX8_save 1 := ⟨Or.inl zw1228, zw1231, zw9, by decide +kernel, by decide +kernel, by decide +kernel⟩
theorem zw1235 : Cond.code mX8_restore.1 mX8_restore.2.1 mX8_restore.2.2.1 mX8_restore.2.2.2.1 ∈ zTb := List.mem_filter.mpr ⟨List.mem_append_right _ (List.mem_of_getElem? (i := 1235) (by decide +kernel)), by decide +kernel⟩
theorem zw1232 : Cond.methodLink RL 203 mX8_restore.1 ∈ zTb := List.mem_filter.mpr ⟨List.mem_append_right _ (List.mem_of_getElem? (i := 1232) (by decide +kernel)), by decide +kernel⟩
theorem zkL_203 : zLk RL 203 mX8_restore 1 := ⟨Or.inl zw1232, zw1235, zw9, by decide +kernel, by decide +kernel, by decide +kernel⟩
theorem zw999 : Cond.code mX8_copy.1 mX8_copy.2.1 mX8_copy.2.2.1 mX8_copy.2.2.2.1 ∈ zTb := List.mem_filter.mpr ⟨List.mem_append_right _ (List.mem_of_getElem? (i := 999) (by decide +kernel)), by decide +kernel⟩
theorem zw997 : Cond.methodLink RX8 53 mX8_copy.1 ∈ zTb := List.mem_filter.mpr ⟨List.mem_append_right _ (List.mem_of_getElem? (i := 997) (by decide +kernel)), by decide +kernel⟩
theorem zkX8_53 : zLk RX8 53 mX8_copy 5 := ⟨Or.inl zw997, zw999, zw9, by decide +kernel, by decide +kernel, by decide +kernel⟩
theorem zw954 : Cond.code mX8_in.1 mX8_in.2.1 mX8_in.2.2.1 mX8_in.2.2.2.1 ∈ zTb := List.mem_filter.mpr ⟨List.mem_append_right _ (List.mem_of_getElem? (i := 954) (by decide +kernel)), by decide +kernel⟩
theorem zw952 : Cond.methodLink RX8 57 mX8_in.1 ∈ zTb := List.mem_filter.mpr ⟨List.mem_append_right _ (List.mem_of_getElem? (i := 952) (by decide +kernel)), by decide +kernel⟩
theorem zkX8_57 : zLk RX8 57 mX8_in 3 := ⟨Or.inl zw952, zw954, zw9, by decide +kernel, by decide +kernel, by decide +kernel⟩
theorem zw985 : Cond.code mX8_agentAt.1 mX8_agentAt.2.1 mX8_agentAt.2.2.1 mX8_agentAt.2.2.2.1 ∈ zTb := List.mem_filter.mpr ⟨List.mem_append_right _ (List.mem_of_getElem? (i := 985) (by decide +kernel)), by decide +kernel⟩
theorem zw983 : Cond.methodLink RX8 61 mX8_agentAt.1 ∈ zTb := List.mem_filter.mpr ⟨List.mem_append_right _ (List.mem_of_getElem? (i := 983) (by decide +kernel)), by decide +kernel⟩
theorem zkX8_61 : zLk RX8 61 mX8_agentAt 1 := ⟨Or.inl zw983, zw985, zw9, by decide +kernel, by decide +kernel, by decide +kernel⟩
theorem zw992 : Cond.code mX8_taskAt.1 mX8_taskAt.2.1 mX8_taskAt.2.2.1 mX8_taskAt.2.2.2.1 ∈ zTb := List.mem_filter.mpr ⟨List.mem_append_right _ (List.mem_of_getElem? (i := 992) (by decide +kernel)), by decide +kernel⟩
theorem zw990 : Cond.methodLink RX8 65 mX8_taskAt.1 ∈ zTb := List.mem_filter.mpr ⟨List.mem_append_right _ (List.mem_of_getElem? (i := 990) (by decide +kernel)), by decide +kernel⟩
theorem zkX8_65 : zLk RX8 65 mX8_taskAt 1 := ⟨Or.inl zw990, zw992, zw9, by decide +kernel, by decide +kernel, by decide +kernel⟩
theorem zw1045 : Cond.code mX8_size.1 mX8_size.2.1 mX8_size.2.2.1 mX8_size.2.2.2.1 ∈ zTb := List.mem_filter.mpr ⟨List.mem_append_right _ (List.mem_of_getElem? (i := 1045) (by decide +kernel)), by decide +kernel⟩
theorem zw1043 : Cond.methodLink RX8 68 mX8_size.1 ∈ zTb := List.mem_filter.mpr ⟨List.mem_append_right _ (List.mem_of_getElem? (i := 1043) (by decide +kernel)), by decide +kernel⟩
theorem zkX8_68 : zLk RX8 68 mX8_size 1 := ⟨Or.inl zw1043, zw1045, zw9, by decide +kernel, by decide +kernel, by decide +kernel⟩
theorem zw1016 : Cond.code mX8_isOn.1 mX8_isOn.2.1 mX8_isOn.2.2.1 mX8_isOn.2.2.2.1 ∈ zTb := List.mem_filter.mpr ⟨List.mem_append_right _ (List.mem_of_getElem? (i := 1016) (by decide +kernel)), by decide +kernel⟩
theorem zw1014 : Cond.methodLink RX8 71 mX8_isOn.1 ∈ zTb := List.mem_filter.mpr ⟨List.mem_append_right _ (List.mem_of_getElem? (i := 1014) (by decide +kernel)), by decide +kernel⟩
theorem zkX8_71 : zLk RX8 71 mX8_isOn 2 := ⟨Or.inl zw1014, zw1016, zw9, by decide +kernel, by decide +kernel, by decide +kernel⟩
theorem zw1042 : Cond.code mX8_apart.1 mX8_apart.2.1 mX8_apart.2.2.1 mX8_apart.2.2.2.1 ∈ zTb := List.mem_filter.mpr ⟨List.mem_append_right _ (List.mem_of_getElem? (i := 1042) (by decide +kernel)), by decide +kernel⟩
theorem zw1040 : Cond.methodLink RX8 75 mX8_apart.1 ∈ zTb := List.mem_filter.mpr ⟨List.mem_append_right _ (List.mem_of_getElem? (i := 1040) (by decide +kernel)), by decide +kernel⟩
theorem zkX8_75 : zLk RX8 75 mX8_apart 3 := ⟨Or.inl zw1040, zw1042, zw9, by decide +kernel, by decide +kernel, by decide +kernel⟩
theorem zw1036 : Cond.code mX8_isLive.1 mX8_isLive.2.1 mX8_isLive.2.2.1 mX8_isLive.2.2.2.1 ∈ zTb := List.mem_filter.mpr ⟨List.mem_append_right _ (List.mem_of_getElem? (i := 1036) (by decide +kernel)), by decide +kernel⟩
theorem zw1034 : Cond.methodLink RX8 79 mX8_isLive.1 ∈ zTb := List.mem_filter.mpr ⟨List.mem_append_right _ (List.mem_of_getElem? (i := 1034) (by decide +kernel)), by decide +kernel⟩
theorem zkX8_79 : zLk RX8 79 mX8_isLive 3 := ⟨Or.inl zw1034, zw1036, zw9, by decide +kernel, by decide +kernel, by decide +kernel⟩
theorem zw1033 : Cond.code mX8_noteAt.1 mX8_noteAt.2.1 mX8_noteAt.2.2.1 mX8_noteAt.2.2.2.1 ∈ zTb := List.mem_filter.mpr ⟨List.mem_append_right _ (List.mem_of_getElem? (i := 1033) (by decide +kernel)), by decide +kernel⟩
theorem zw1031 : Cond.methodLink RX8 83 mX8_noteAt.1 ∈ zTb := List.mem_filter.mpr ⟨List.mem_append_right _ (List.mem_of_getElem? (i := 1031) (by decide +kernel)), by decide +kernel⟩
theorem zkX8_83 : zLk RX8 83 mX8_noteAt 2 := ⟨Or.inl zw1031, zw1033, zw9, by decide +kernel, by decide +kernel, by decide +kernel⟩
theorem zw1030 : Cond.code mX8_isOwn.1 mX8_isOwn.2.1 mX8_isOwn.2.2.1 mX8_isOwn.2.2.2.1 ∈ zTb := List.mem_filter.mpr ⟨List.mem_append_right _ (List.mem_of_getElem? (i := 1030) (by decide +kernel)), by decide +kernel⟩
theorem zw1028 : Cond.methodLink RX8 87 mX8_isOwn.1 ∈ zTb := List.mem_filter.mpr ⟨List.mem_append_right _ (List.mem_of_getElem? (i := 1028) (by decide +kernel)), by decide +kernel⟩
theorem zkX8_87 : zLk RX8 87 mX8_isOwn 3 := ⟨Or.inl zw1028, zw1030, zw9, by decide +kernel, by decide +kernel, by decide +kernel⟩
theorem zw1039 : Cond.code mX8_hears.1 mX8_hears.2.1 mX8_hears.2.2.1 mX8_hears.2.2.2.1 ∈ zTb := List.mem_filter.mpr ⟨List.mem_append_right _ (List.mem_of_getElem? (i := 1039) (by decide +kernel)), by decide +kernel⟩
theorem zw1037 : Cond.methodLink RX8 90 mX8_hears.1 ∈ zTb := List.mem_filter.mpr ⟨List.mem_append_right _ (List.mem_of_getElem? (i := 1037) (by decide +kernel)), by decide +kernel⟩
theorem zkX8_90 : zLk RX8 90 mX8_hears 3 := ⟨Or.inl zw1037, zw1039, zw9, by decide +kernel, by decide +kernel, by decide +kernel⟩
theorem zw1082 : Cond.code mX8_better.1 mX8_better.2.1 mX8_better.2.2.1 mX8_better.2.2.2.1 ∈ zTb := List.mem_filter.mpr ⟨List.mem_append_right _ (List.mem_of_getElem? (i := 1082) (by decide +kernel)), by decide +kernel⟩
theorem zw1080 : Cond.methodLink RX8 93 mX8_better.1 ∈ zTb := List.mem_filter.mpr ⟨List.mem_append_right _ (List.mem_of_getElem? (i := 1080) (by decide +kernel)), by decide +kernel⟩
theorem zkX8_93 : zLk RX8 93 mX8_better 3 := ⟨Or.inl zw1080, zw1082, zw9, by decide +kernel, by decide +kernel, by decide +kernel⟩
theorem zw1085 : Cond.code mX8_lay.1 mX8_lay.2.1 mX8_lay.2.2.1 mX8_lay.2.2.2.1 ∈ zTb := List.mem_filter.mpr ⟨List.mem_append_right _ (List.mem_of_getElem? (i := 1085) (by decide +kernel)), by decide +kernel⟩
theorem zw1083 : Cond.methodLink RX8 96 mX8_lay.1 ∈ zTb := List.mem_filter.mpr ⟨List.mem_append_right _ (List.mem_of_getElem? (i := 1083) (by decide +kernel)), by decide +kernel⟩
theorem zkX8_96 : zLk RX8 96 mX8_lay 6 := ⟨Or.inl zw1083, zw1085, zw9, by decide +kernel, by decide +kernel, by decide +kernel⟩
theorem zw1091 : Cond.code mX8_far.1 mX8_far.2.1 mX8_far.2.2.1 mX8_far.2.2.2.1 ∈ zTb := List.mem_filter.mpr ⟨List.mem_append_right _ (List.mem_of_getElem? (i := 1091) (by decide +kernel)), by decide +kernel⟩
theorem zw1089 : Cond.methodLink RX8 100 mX8_far.1 ∈ zTb := List.mem_filter.mpr ⟨List.mem_append_right _ (List.mem_of_getElem? (i := 1089) (by decide +kernel)), by decide +kernel⟩
theorem zkX8_100 : zLk RX8 100 mX8_far 3 := ⟨Or.inl zw1089, zw1091, zw9, by decide +kernel, by decide +kernel, by decide +kernel⟩
theorem zw1027 : Cond.code mX8_ownTask.1 mX8_ownTask.2.1 mX8_ownTask.2.2.1 mX8_ownTask.2.2.2.1 ∈ zTb := List.mem_filter.mpr ⟨List.mem_append_right _ (List.mem_of_getElem? (i := 1027) (by decide +kernel)), by decide +kernel⟩
theorem zw1025 : Cond.methodLink RX8 103 mX8_ownTask.1 ∈ zTb := List.mem_filter.mpr ⟨List.mem_append_right _ (List.mem_of_getElem? (i := 1025) (by decide +kernel)), by decide +kernel⟩
theorem zkX8_103 : zLk RX8 103 mX8_ownTask 2 := ⟨Or.inl zw1025, zw1027, zw9, by decide +kernel, by decide +kernel, by decide +kernel⟩
theorem zw1010 : Cond.code mX8_isDone.1 mX8_isDone.2.1 mX8_isDone.2.2.1 mX8_isDone.2.2.2.1 ∈ zTb := List.mem_filter.mpr ⟨List.mem_append_right _ (List.mem_of_getElem? (i := 1010) (by decide +kernel)), by decide +kernel⟩
theorem zw1008 : Cond.methodLink RX8 107 mX8_isDone.1 ∈ zTb := List.mem_filter.mpr ⟨List.mem_append_right _ (List.mem_of_getElem? (i := 1008) (by decide +kernel)), by decide +kernel⟩
theorem zkX8_107 : zLk RX8 107 mX8_isDone 2 := ⟨Or.inl zw1008, zw1010, zw9, by decide +kernel, by decide +kernel, by decide +kernel⟩
theorem zw1079 : Cond.code mX8_listen.1 mX8_listen.2.1 mX8_listen.2.2.1 mX8_listen.2.2.2.1 ∈ zTb := List.mem_filter.mpr ⟨List.mem_append_right _ (List.mem_of_getElem? (i := 1079) (by decide +kernel)), by decide +kernel⟩
theorem zw1076 : Cond.methodLink RX8 110 mX8_listen.1 ∈ zTb := List.mem_filter.mpr ⟨List.mem_append_right _ (List.mem_of_getElem? (i := 1076) (by decide +kernel)), by decide +kernel⟩
theorem zkX8_110 : zLk RX8 110 mX8_listen 1 := ⟨Or.inl zw1076, zw1079, zw9, by decide +kernel, by decide +kernel, by decide +kernel⟩
theorem zw1088 : Cond.code mX8_claim.1 mX8_claim.2.1 mX8_claim.2.2.1 mX8_claim.2.2.2.1 ∈ zTb := List.mem_filter.mpr ⟨List.mem_append_right _ (List.mem_of_getElem? (i := 1088) (by decide +kernel)), by decide +kernel⟩
theorem zw1086 : Cond.methodLink RX8 114 mX8_claim.1 ∈ zTb := List.mem_filter.mpr ⟨List.mem_append_right _ (List.mem_of_getElem? (i := 1086) (by decide +kernel)), by decide +kernel⟩
theorem zkX8_114 : zLk RX8 114 mX8_claim 2 := ⟨Or.inl zw1086, zw1088, zw9, by decide +kernel, by decide +kernel, by decide +kernel⟩
theorem zw1094 : Cond.code mX8_work.1 mX8_work.2.1 mX8_work.2.2.1 mX8_work.2.2.2.1 ∈ zTb := List.mem_filter.mpr ⟨List.mem_append_right _ (List.mem_of_getElem? (i := 1094) (by decide +kernel)), by decide +kernel⟩
theorem zw1092 : Cond.methodLink RX8 118 mX8_work.1 ∈ zTb := List.mem_filter.mpr ⟨List.mem_append_right _ (List.mem_of_getElem? (i := 1092) (by decide +kernel)), by decide +kernel⟩
theorem zkX8_118 : zLk RX8 118 mX8_work 2 := ⟨Or.inl zw1092, zw1094, zw9, by decide +kernel, by decide +kernel, by decide +kernel⟩
theorem zw958 : Cond.code mX8_refused.1 mX8_refused.2.1 mX8_refused.2.2.1 mX8_refused.2.2.2.1 ∈ zTb := List.mem_filter.mpr ⟨List.mem_append_right _ (List.mem_of_getElem? (i := 958) (by decide +kernel)), by decide +kernel⟩
theorem zw955 : Cond.methodLink RX8 126 mX8_refused.1 ∈ zTb := List.mem_filter.mpr ⟨List.mem_append_right _ (List.mem_of_getElem? (i := 955) (by decide +kernel)), by decide +kernel⟩
theorem zkX8_126 : zLk RX8 126 mX8_refused 1 := ⟨Or.inl zw955, zw958, zw9, by decide +kernel, by decide +kernel, by decide +kernel⟩
theorem zw978 : Cond.code mX8_digit.1 mX8_digit.2.1 mX8_digit.2.2.1 mX8_digit.2.2.2.1 ∈ zTb := List.mem_filter.mpr ⟨List.mem_append_right _ (List.mem_of_getElem? (i := 978) (by decide +kernel)), by decide +kernel⟩
theorem zw975 : Cond.methodLink RX8 133 mX8_digit.1 ∈ zTb := List.mem_filter.mpr ⟨List.mem_append_right _ (List.mem_of_getElem? (i := 975) (by decide +kernel)), by decide +kernel⟩
theorem zkX8_133 : zLk RX8 133 mX8_digit 2 := ⟨Or.inl zw975, zw978, zw9, by decide +kernel, by decide +kernel, by decide +kernel⟩
theorem zw974 : Cond.code mX8_two.1 mX8_two.2.1 mX8_two.2.2.1 mX8_two.2.2.2.1 ∈ zTb := List.mem_filter.mpr ⟨List.mem_append_right _ (List.mem_of_getElem? (i := 974) (by decide +kernel)), by decide +kernel⟩
theorem zw971 : Cond.methodLink RX8 136 mX8_two.1 ∈ zTb := List.mem_filter.mpr ⟨List.mem_append_right _ (List.mem_of_getElem? (i := 971) (by decide +kernel)), by decide +kernel⟩
theorem zkX8_136 : zLk RX8 136 mX8_two 2 := ⟨Or.inl zw971, zw974, zw9, by decide +kernel, by decide +kernel, by decide +kernel⟩
theorem zw982 : Cond.code mX8_readAgent.1 mX8_readAgent.2.1 mX8_readAgent.2.2.1 mX8_readAgent.2.2.2.1 ∈ zTb := List.mem_filter.mpr ⟨List.mem_append_right _ (List.mem_of_getElem? (i := 982) (by decide +kernel)), by decide +kernel⟩
theorem zw979 : Cond.methodLink RX8 139 mX8_readAgent.1 ∈ zTb := List.mem_filter.mpr ⟨List.mem_append_right _ (List.mem_of_getElem? (i := 979) (by decide +kernel)), by decide +kernel⟩
theorem zkX8_139 : zLk RX8 139 mX8_readAgent 0 := ⟨Or.inl zw979, zw982, zw9, by decide +kernel, by decide +kernel, by decide +kernel⟩
theorem zw989 : Cond.code mX8_readTask.1 mX8_readTask.2.1 mX8_readTask.2.2.1 mX8_readTask.2.2.2.1 ∈ zTb := List.mem_filter.mpr ⟨List.mem_append_right _ (List.mem_of_getElem? (i := 989) (by decide +kernel)), by decide +kernel⟩
theorem zw986 : Cond.methodLink RX8 143 mX8_readTask.1 ∈ zTb := List.mem_filter.mpr ⟨List.mem_append_right _ (List.mem_of_getElem? (i := 986) (by decide +kernel)), by decide +kernel⟩
theorem zkX8_143 : zLk RX8 143 mX8_readTask 0 := ⟨Or.inl zw986, zw989, zw9, by decide +kernel, by decide +kernel, by decide +kernel⟩
theorem zw970 : Cond.code mX8_readText.1 mX8_readText.2.1 mX8_readText.2.2.1 mX8_readText.2.2.2.1 ∈ zTb := List.mem_filter.mpr ⟨List.mem_append_right _ (List.mem_of_getElem? (i := 970) (by decide +kernel)), by decide +kernel⟩
theorem zw967 : Cond.methodLink RX8 146 mX8_readText.1 ∈ zTb := List.mem_filter.mpr ⟨List.mem_append_right _ (List.mem_of_getElem? (i := 967) (by decide +kernel)), by decide +kernel⟩
theorem zkX8_146 : zLk RX8 146 mX8_readText 0 := ⟨Or.inl zw967, zw970, zw9, by decide +kernel, by decide +kernel, by decide +kernel⟩
theorem zw1007 : Cond.code mX8_finished.1 mX8_finished.2.1 mX8_finished.2.2.1 mX8_finished.2.2.2.1 ∈ zTb := List.mem_filter.mpr ⟨List.mem_append_right _ (List.mem_of_getElem? (i := 1007) (by decide +kernel)), by decide +kernel⟩
theorem zw1005 : Cond.methodLink RX8 152 mX8_finished.1 ∈ zTb := List.mem_filter.mpr ⟨List.mem_append_right _ (List.mem_of_getElem? (i := 1005) (by decide +kernel)), by decide +kernel⟩
theorem zkX8_152 : zLk RX8 152 mX8_finished 1 := ⟨Or.inl zw1005, zw1007, zw9, by decide +kernel, by decide +kernel, by decide +kernel⟩
theorem zw1013 : Cond.code mX8_sumOf.1 mX8_sumOf.2.1 mX8_sumOf.2.2.1 mX8_sumOf.2.2.2.1 ∈ zTb := List.mem_filter.mpr ⟨List.mem_append_right _ (List.mem_of_getElem? (i := 1013) (by decide +kernel)), by decide +kernel⟩
theorem zw1011 : Cond.methodLink RX8 156 mX8_sumOf.1 ∈ zTb := List.mem_filter.mpr ⟨List.mem_append_right _ (List.mem_of_getElem? (i := 1011) (by decide +kernel)), by decide +kernel⟩
theorem zkX8_156 : zLk RX8 156 mX8_sumOf 2 := ⟨Or.inl zw1011, zw1013, zw9, by decide +kernel, by decide +kernel, by decide +kernel⟩
theorem zw1024 : Cond.code mX8_isAgent.1 mX8_isAgent.2.1 mX8_isAgent.2.2.1 mX8_isAgent.2.2.2.1 ∈ zTb := List.mem_filter.mpr ⟨List.mem_append_right _ (List.mem_of_getElem? (i := 1024) (by decide +kernel)), by decide +kernel⟩
theorem zw1021 : Cond.methodLink RX8 159 mX8_isAgent.1 ∈ zTb := List.mem_filter.mpr ⟨List.mem_append_right _ (List.mem_of_getElem? (i := 1021) (by decide +kernel)), by decide +kernel⟩
theorem zkX8_159 : zLk RX8 159 mX8_isAgent 1 := ⟨Or.inl zw1021, zw1024, zw9, by decide +kernel, by decide +kernel, by decide +kernel⟩
theorem zw1053 : Cond.code mX8_isTask.1 mX8_isTask.2.1 mX8_isTask.2.2.1 mX8_isTask.2.2.2.1 ∈ zTb := List.mem_filter.mpr ⟨List.mem_append_right _ (List.mem_of_getElem? (i := 1053) (by decide +kernel)), by decide +kernel⟩
theorem zw1050 : Cond.methodLink RX8 162 mX8_isTask.1 ∈ zTb := List.mem_filter.mpr ⟨List.mem_append_right _ (List.mem_of_getElem? (i := 1050) (by decide +kernel)), by decide +kernel⟩
theorem zkX8_162 : zLk RX8 162 mX8_isTask 1 := ⟨Or.inl zw1050, zw1053, zw9, by decide +kernel, by decide +kernel, by decide +kernel⟩
theorem zw1057 : Cond.code mX8_claimers.1 mX8_claimers.2.1 mX8_claimers.2.2.1 mX8_claimers.2.2.2.1 ∈ zTb := List.mem_filter.mpr ⟨List.mem_append_right _ (List.mem_of_getElem? (i := 1057) (by decide +kernel)), by decide +kernel⟩
theorem zw1055 : Cond.methodLink RX8 167 mX8_claimers.1 ∈ zTb := List.mem_filter.mpr ⟨List.mem_append_right _ (List.mem_of_getElem? (i := 1055) (by decide +kernel)), by decide +kernel⟩
theorem zkX8_167 : zLk RX8 167 mX8_claimers 2 := ⟨Or.inl zw1055, zw1057, zw9, by decide +kernel, by decide +kernel, by decide +kernel⟩
theorem zw1071 : Cond.code mX8_note.1 mX8_note.2.1 mX8_note.2.2.1 mX8_note.2.2.2.1 ∈ zTb := List.mem_filter.mpr ⟨List.mem_append_right _ (List.mem_of_getElem? (i := 1071) (by decide +kernel)), by decide +kernel⟩
theorem zw1068 : Cond.methodLink RX8 174 mX8_note.1 ∈ zTb := List.mem_filter.mpr ⟨List.mem_append_right _ (List.mem_of_getElem? (i := 1068) (by decide +kernel)), by decide +kernel⟩
theorem zkX8_174 : zLk RX8 174 mX8_note 0 := ⟨Or.inl zw1068, zw1071, zw9, by decide +kernel, by decide +kernel, by decide +kernel⟩
theorem zw1075 : Cond.code mX8_stepOn.1 mX8_stepOn.2.1 mX8_stepOn.2.2.1 mX8_stepOn.2.2.2.1 ∈ zTb := List.mem_filter.mpr ⟨List.mem_append_right _ (List.mem_of_getElem? (i := 1075) (by decide +kernel)), by decide +kernel⟩
theorem zw1072 : Cond.methodLink RX8 177 mX8_stepOn.1 ∈ zTb := List.mem_filter.mpr ⟨List.mem_append_right _ (List.mem_of_getElem? (i := 1072) (by decide +kernel)), by decide +kernel⟩
theorem zkX8_177 : zLk RX8 177 mX8_stepOn 1 := ⟨Or.inl zw1072, zw1075, zw9, by decide +kernel, by decide +kernel, by decide +kernel⟩
theorem zw1106 : Cond.code mX8_isPlace.1 mX8_isPlace.2.1 mX8_isPlace.2.2.1 mX8_isPlace.2.2.2.1 ∈ zTb := List.mem_filter.mpr ⟨List.mem_append_right _ (List.mem_of_getElem? (i := 1106) (by decide +kernel)), by decide +kernel⟩
theorem zw1104 : Cond.methodLink RX8 184 mX8_isPlace.1 ∈ zTb := List.mem_filter.mpr ⟨List.mem_append_right _ (List.mem_of_getElem? (i := 1104) (by decide +kernel)), by decide +kernel⟩
theorem zkX8_184 : zLk RX8 184 mX8_isPlace 2 := ⟨Or.inl zw1104, zw1106, zw9, by decide +kernel, by decide +kernel, by decide +kernel⟩
theorem zw1114 : Cond.code mX8_countOn.1 mX8_countOn.2.1 mX8_countOn.2.2.1 mX8_countOn.2.2.2.1 ∈ zTb := List.mem_filter.mpr ⟨List.mem_append_right _ (List.mem_of_getElem? (i := 1114) (by decide +kernel)), by decide +kernel⟩
theorem zw1112 : Cond.methodLink RX8 188 mX8_countOn.1 ∈ zTb := List.mem_filter.mpr ⟨List.mem_append_right _ (List.mem_of_getElem? (i := 1112) (by decide +kernel)), by decide +kernel⟩
theorem zkX8_188 : zLk RX8 188 mX8_countOn 1 := ⟨Or.inl zw1112, zw1114, zw9, by decide +kernel, by decide +kernel, by decide +kernel⟩
theorem zw1121 : Cond.code mX8_canHandOver.1 mX8_canHandOver.2.1 mX8_canHandOver.2.2.1 mX8_canHandOver.2.2.2.1 ∈ zTb := List.mem_filter.mpr ⟨List.mem_append_right _ (List.mem_of_getElem? (i := 1121) (by decide +kernel)), by decide +kernel⟩
theorem zw1119 : Cond.methodLink RX8 191 mX8_canHandOver.1 ∈ zTb := List.mem_filter.mpr ⟨List.mem_append_right _ (List.mem_of_getElem? (i := 1119) (by decide +kernel)), by decide +kernel⟩
theorem zkX8_191 : zLk RX8 191 mX8_canHandOver 3 := ⟨Or.inl zw1119, zw1121, zw9, by decide +kernel, by decide +kernel, by decide +kernel⟩
theorem zw1124 : Cond.code mX8_handOn.1 mX8_handOn.2.1 mX8_handOn.2.2.1 mX8_handOn.2.2.2.1 ∈ zTb := List.mem_filter.mpr ⟨List.mem_append_right _ (List.mem_of_getElem? (i := 1124) (by decide +kernel)), by decide +kernel⟩
theorem zw1122 : Cond.methodLink RX8 194 mX8_handOn.1 ∈ zTb := List.mem_filter.mpr ⟨List.mem_append_right _ (List.mem_of_getElem? (i := 1122) (by decide +kernel)), by decide +kernel⟩
theorem zkX8_194 : zLk RX8 194 mX8_handOn 3 := ⟨Or.inl zw1122, zw1124, zw9, by decide +kernel, by decide +kernel, by decide +kernel⟩
theorem zw1131 : Cond.code mX8_dropOn.1 mX8_dropOn.2.1 mX8_dropOn.2.2.1 mX8_dropOn.2.2.2.1 ∈ zTb := List.mem_filter.mpr ⟨List.mem_append_right _ (List.mem_of_getElem? (i := 1131) (by decide +kernel)), by decide +kernel⟩
theorem zw1129 : Cond.methodLink RX8 197 mX8_dropOn.1 ∈ zTb := List.mem_filter.mpr ⟨List.mem_append_right _ (List.mem_of_getElem? (i := 1129) (by decide +kernel)), by decide +kernel⟩
theorem zkX8_197 : zLk RX8 197 mX8_dropOn 2 := ⟨Or.inl zw1129, zw1131, zw9, by decide +kernel, by decide +kernel, by decide +kernel⟩
theorem zw1148 : Cond.code mX8_layWays.1 mX8_layWays.2.1 mX8_layWays.2.2.1 mX8_layWays.2.2.2.1 ∈ zTb := List.mem_filter.mpr ⟨List.mem_append_right _ (List.mem_of_getElem? (i := 1148) (by decide +kernel)), by decide +kernel⟩
theorem zw1145 : Cond.methodLink RX8 202 mX8_layWays.1 ∈ zTb := List.mem_filter.mpr ⟨List.mem_append_right _ (List.mem_of_getElem? (i := 1145) (by decide +kernel)), by decide +kernel⟩
theorem zkX8_202 : zLk RX8 202 mX8_layWays 2 := ⟨Or.inl zw1145, zw1148, zw9, by decide +kernel, by decide +kernel, by decide +kernel⟩
theorem zw1156 : Cond.code mX8_groupsOf.1 mX8_groupsOf.2.1 mX8_groupsOf.2.2.1 mX8_groupsOf.2.2.2.1 ∈ zTb := List.mem_filter.mpr ⟨List.mem_append_right _ (List.mem_of_getElem? (i := 1156) (by decide +kernel)), by decide +kernel⟩
theorem zw1153 : Cond.methodLink RX8 205 mX8_groupsOf.1 ∈ zTb := List.mem_filter.mpr ⟨List.mem_append_right _ (List.mem_of_getElem? (i := 1153) (by decide +kernel)), by decide +kernel⟩
theorem zkX8_205 : zLk RX8 205 mX8_groupsOf 1 := ⟨Or.inl zw1153, zw1156, zw9, by decide +kernel, by decide +kernel, by decide +kernel⟩
theorem zw1164 : Cond.code mX8_setRanges.1 mX8_setRanges.2.1 mX8_setRanges.2.2.1 mX8_setRanges.2.2.2.1 ∈ zTb := List.mem_filter.mpr ⟨List.mem_append_right _ (List.mem_of_getElem? (i := 1164) (by decide +kernel)), by decide +kernel⟩
theorem zw1161 : Cond.methodLink RX8 208 mX8_setRanges.1 ∈ zTb := List.mem_filter.mpr ⟨List.mem_append_right _ (List.mem_of_getElem? (i := 1161) (by decide +kernel)), by decide +kernel⟩
theorem zkX8_208 : zLk RX8 208 mX8_setRanges 2 := ⟨Or.inl zw1161, zw1164, zw9, by decide +kernel, by decide +kernel, by decide +kernel⟩
theorem zw1172 : Cond.code mX8_doubles.1 mX8_doubles.2.1 mX8_doubles.2.2.1 mX8_doubles.2.2.2.1 ∈ zTb := List.mem_filter.mpr ⟨List.mem_append_right _ (List.mem_of_getElem? (i := 1172) (by decide +kernel)), by decide +kernel⟩
theorem zw1170 : Cond.methodLink RX8 213 mX8_doubles.1 ∈ zTb := List.mem_filter.mpr ⟨List.mem_append_right _ (List.mem_of_getElem? (i := 1170) (by decide +kernel)), by decide +kernel⟩
theorem zkX8_213 : zLk RX8 213 mX8_doubles 1 := ⟨Or.inl zw1170, zw1172, zw9, by decide +kernel, by decide +kernel, by decide +kernel⟩
theorem zw1184 : Cond.code mX8_isKnown.1 mX8_isKnown.2.1 mX8_isKnown.2.2.1 mX8_isKnown.2.2.2.1 ∈ zTb := List.mem_filter.mpr ⟨List.mem_append_right _ (List.mem_of_getElem? (i := 1184) (by decide +kernel)), by decide +kernel⟩
theorem zw1182 : Cond.methodLink RX8 218 mX8_isKnown.1 ∈ zTb := List.mem_filter.mpr ⟨List.mem_append_right _ (List.mem_of_getElem? (i := 1182) (by decide +kernel)), by decide +kernel⟩
theorem zkX8_218 : zLk RX8 218 mX8_isKnown 2 := ⟨Or.inl zw1182, zw1184, zw9, by decide +kernel, by decide +kernel, by decide +kernel⟩
theorem zw1195 : Cond.code mX8_progress.1 mX8_progress.2.1 mX8_progress.2.2.1 mX8_progress.2.2.2.1 ∈ zTb := List.mem_filter.mpr ⟨List.mem_append_right _ (List.mem_of_getElem? (i := 1195) (by decide +kernel)), by decide +kernel⟩
theorem zw1193 : Cond.methodLink RX8 221 mX8_progress.1 ∈ zTb := List.mem_filter.mpr ⟨List.mem_append_right _ (List.mem_of_getElem? (i := 1193) (by decide +kernel)), by decide +kernel⟩
theorem zkX8_221 : zLk RX8 221 mX8_progress 1 := ⟨Or.inl zw1193, zw1195, zw9, by decide +kernel, by decide +kernel, by decide +kernel⟩
theorem zw1207 : Cond.code mX8_canGet.1 mX8_canGet.2.1 mX8_canGet.2.2.1 mX8_canGet.2.2.2.1 ∈ zTb := List.mem_filter.mpr ⟨List.mem_append_right _ (List.mem_of_getElem? (i := 1207) (by decide +kernel)), by decide +kernel⟩
theorem zw1204 : Cond.methodLink RX8 224 mX8_canGet.1 ∈ zTb := List.mem_filter.mpr ⟨List.mem_append_right _ (List.mem_of_getElem? (i := 1204) (by decide +kernel)), by decide +kernel⟩
theorem zkX8_224 : zLk RX8 224 mX8_canGet 3 := ⟨Or.inl zw1204, zw1207, zw9, by decide +kernel, by decide +kernel, by decide +kernel⟩
theorem zw1203 : Cond.code mX8_share.1 mX8_share.2.1 mX8_share.2.2.1 mX8_share.2.2.2.1 ∈ zTb := List.mem_filter.mpr ⟨List.mem_append_right _ (List.mem_of_getElem? (i := 1203) (by decide +kernel)), by decide +kernel⟩
theorem zw1200 : Cond.methodLink RX8 228 mX8_share.1 ∈ zTb := List.mem_filter.mpr ⟨List.mem_append_right _ (List.mem_of_getElem? (i := 1200) (by decide +kernel)), by decide +kernel⟩
theorem zkX8_228 : zLk RX8 228 mX8_share 0 := ⟨Or.inl zw1200, zw1203, zw9, by decide +kernel, by decide +kernel, by decide +kernel⟩
theorem zw1214 : Cond.code mX8_tenTo.1 mX8_tenTo.2.1 mX8_tenTo.2.2.1 mX8_tenTo.2.2.2.1 ∈ zTb := List.mem_filter.mpr ⟨List.mem_append_right _ (List.mem_of_getElem? (i := 1214) (by decide +kernel)), by decide +kernel⟩
theorem zw1212 : Cond.methodLink RX8 231 mX8_tenTo.1 ∈ zTb := List.mem_filter.mpr ⟨List.mem_append_right _ (List.mem_of_getElem? (i := 1212) (by decide +kernel)), by decide +kernel⟩
theorem zkX8_231 : zLk RX8 231 mX8_tenTo 1 := ⟨Or.inl zw1212, zw1214, zw9, by decide +kernel, by decide +kernel, by decide +kernel⟩
theorem zw1220 : Cond.code mX8_command.1 mX8_command.2.1 mX8_command.2.2.1 mX8_command.2.2.2.1 ∈ zTb := List.mem_filter.mpr ⟨List.mem_append_right _ (List.mem_of_getElem? (i := 1220) (by decide +kernel)), by decide +kernel⟩
theorem zw1217 : Cond.methodLink RX8 237 mX8_command.1 ∈ zTb := List.mem_filter.mpr ⟨List.mem_append_right _ (List.mem_of_getElem? (i := 1217) (by decide +kernel)), by decide +kernel⟩
theorem zkX8_237 : zLk RX8 237 mX8_command 1 := ⟨Or.inl zw1217, zw1220, zw9, by decide +kernel, by decide +kernel, by decide +kernel⟩
theorem zw187 : Cond.instanceMethod mX0_init.1 ∈ zTb := List.mem_filter.mpr ⟨List.mem_append_right _ (List.mem_of_getElem? (i := 187) (by decide +kernel)), by decide +kernel⟩
theorem zt_mX0_init : Cond.instanceMethod mX0_init.1 ∈ zTb := zw187
theorem zw848 : Cond.instanceMethod mX0_succeeds.1 ∈ zTb := List.mem_filter.mpr ⟨List.mem_append_right _ (List.mem_of_getElem? (i := 848) (by decide +kernel)), by decide +kernel⟩
theorem zw849 : Cond.selects mX0_succeeds.1.cls mX0_succeeds.1 mX0_succeeds.1 ∈ zTb := List.mem_filter.mpr ⟨List.mem_append_right _ (List.mem_of_getElem? (i := 849) (by decide +kernel)), by decide +kernel⟩
theorem zt_mX0_succeeds : Cond.instanceMethod mX0_succeeds.1 ∈ zTb ∧ Cond.selects mX0_succeeds.1.cls mX0_succeeds.1 mX0_succeeds.1 ∈ zTb := ⟨zw848, zw849⟩
theorem zw852 : Cond.static mX0_changes.1 ∈ zTb := List.mem_filter.mpr ⟨List.mem_append_right _ (List.mem_of_getElem? (i := 852) (by decide +kernel)), by decide +kernel⟩
theorem zt_mX0_changes : Cond.static mX0_changes.1 ∈ zTb := zw852
theorem zw155 : Cond.instanceMethod mX1_init.1 ∈ zTb := List.mem_filter.mpr ⟨List.mem_append_right _ (List.mem_of_getElem? (i := 155) (by decide +kernel)), by decide +kernel⟩
theorem zt_mX1_init : Cond.instanceMethod mX1_init.1 ∈ zTb := zw155
theorem zw589 : Cond.instanceMethod mX1_remember.1 ∈ zTb := List.mem_filter.mpr ⟨List.mem_append_right _ (List.mem_of_getElem? (i := 589) (by decide +kernel)), by decide +kernel⟩
theorem zw590 : Cond.selects mX1_remember.1.cls mX1_remember.1 mX1_remember.1 ∈ zTb := List.mem_filter.mpr ⟨List.mem_append_right _ (List.mem_of_getElem? (i := 590) (by decide +kernel)), by decide +kernel⟩
theorem zt_mX1_remember : Cond.instanceMethod mX1_remember.1 ∈ zTb ∧ Cond.selects mX1_remember.1.cls mX1_remember.1 mX1_remember.1 ∈ zTb := ⟨zw589, zw590⟩
theorem zw728 : Cond.instanceMethod mX1_takeBack.1 ∈ zTb := List.mem_filter.mpr ⟨List.mem_append_right _ (List.mem_of_getElem? (i := 728) (by decide +kernel)), by decide +kernel⟩
theorem zw729 : Cond.selects mX1_takeBack.1.cls mX1_takeBack.1 mX1_takeBack.1 ∈ zTb := List.mem_filter.mpr ⟨List.mem_append_right _ (List.mem_of_getElem? (i := 729) (by decide +kernel)), by decide +kernel⟩
theorem zt_mX1_takeBack : Cond.instanceMethod mX1_takeBack.1 ∈ zTb ∧ Cond.selects mX1_takeBack.1.cls mX1_takeBack.1 mX1_takeBack.1 ∈ zTb := ⟨zw728, zw729⟩
theorem zw472 : Cond.instanceMethod mX1_forget.1 ∈ zTb := List.mem_filter.mpr ⟨List.mem_append_right _ (List.mem_of_getElem? (i := 472) (by decide +kernel)), by decide +kernel⟩
theorem zw473 : Cond.selects mX1_forget.1.cls mX1_forget.1 mX1_forget.1 ∈ zTb := List.mem_filter.mpr ⟨List.mem_append_right _ (List.mem_of_getElem? (i := 473) (by decide +kernel)), by decide +kernel⟩
theorem zt_mX1_forget : Cond.instanceMethod mX1_forget.1 ∈ zTb ∧ Cond.selects mX1_forget.1.cls mX1_forget.1 mX1_forget.1 ∈ zTb := ⟨zw472, zw473⟩
theorem zw51 : Cond.instanceMethod mX2_init.1 ∈ zTb := List.mem_filter.mpr ⟨List.mem_append_right _ (List.mem_of_getElem? (i := 51) (by decide +kernel)), by decide +kernel⟩
theorem zt_mX2_init : Cond.instanceMethod mX2_init.1 ∈ zTb := zw51
theorem zw273 : Cond.instanceMethod mX2_makeAllEmpty.1 ∈ zTb := List.mem_filter.mpr ⟨List.mem_append_right _ (List.mem_of_getElem? (i := 273) (by decide +kernel)), by decide +kernel⟩
theorem zw274 : Cond.selects mX2_makeAllEmpty.1.cls mX2_makeAllEmpty.1 mX2_makeAllEmpty.1 ∈ zTb := List.mem_filter.mpr ⟨List.mem_append_right _ (List.mem_of_getElem? (i := 274) (by decide +kernel)), by decide +kernel⟩
theorem zt_mX2_makeAllEmpty : Cond.instanceMethod mX2_makeAllEmpty.1 ∈ zTb ∧ Cond.selects mX2_makeAllEmpty.1.cls mX2_makeAllEmpty.1 mX2_makeAllEmpty.1 ∈ zTb := ⟨zw273, zw274⟩
theorem zw345 : Cond.instanceMethod mX2_copyFrom.1 ∈ zTb := List.mem_filter.mpr ⟨List.mem_append_right _ (List.mem_of_getElem? (i := 345) (by decide +kernel)), by decide +kernel⟩
theorem zw346 : Cond.selects mX2_copyFrom.1.cls mX2_copyFrom.1 mX2_copyFrom.1 ∈ zTb := List.mem_filter.mpr ⟨List.mem_append_right _ (List.mem_of_getElem? (i := 346) (by decide +kernel)), by decide +kernel⟩
theorem zt_mX2_copyFrom : Cond.instanceMethod mX2_copyFrom.1 ∈ zTb ∧ Cond.selects mX2_copyFrom.1.cls mX2_copyFrom.1 mX2_copyFrom.1 ∈ zTb := ⟨zw345, zw346⟩
theorem zw621 : Cond.instanceMethod mX2_copyOne.1 ∈ zTb := List.mem_filter.mpr ⟨List.mem_append_right _ (List.mem_of_getElem? (i := 621) (by decide +kernel)), by decide +kernel⟩
theorem zw622 : Cond.selects mX2_copyOne.1.cls mX2_copyOne.1 mX2_copyOne.1 ∈ zTb := List.mem_filter.mpr ⟨List.mem_append_right _ (List.mem_of_getElem? (i := 622) (by decide +kernel)), by decide +kernel⟩
theorem zt_mX2_copyOne : Cond.instanceMethod mX2_copyOne.1 ∈ zTb ∧ Cond.selects mX2_copyOne.1.cls mX2_copyOne.1 mX2_copyOne.1 ∈ zTb := ⟨zw621, zw622⟩
theorem zw640 : Cond.instanceMethod mX2_makeClaim.1 ∈ zTb := List.mem_filter.mpr ⟨List.mem_append_right _ (List.mem_of_getElem? (i := 640) (by decide +kernel)), by decide +kernel⟩
theorem zw641 : Cond.selects mX2_makeClaim.1.cls mX2_makeClaim.1 mX2_makeClaim.1 ∈ zTb := List.mem_filter.mpr ⟨List.mem_append_right _ (List.mem_of_getElem? (i := 641) (by decide +kernel)), by decide +kernel⟩
theorem zt_mX2_makeClaim : Cond.instanceMethod mX2_makeClaim.1 ∈ zTb ∧ Cond.selects mX2_makeClaim.1.cls mX2_makeClaim.1 mX2_makeClaim.1 ∈ zTb := ⟨zw640, zw641⟩
theorem zw545 : Cond.instanceMethod mX2_isClaimOf.1 ∈ zTb := List.mem_filter.mpr ⟨List.mem_append_right _ (List.mem_of_getElem? (i := 545) (by decide +kernel)), by decide +kernel⟩
theorem zw546 : Cond.selects mX2_isClaimOf.1.cls mX2_isClaimOf.1 mX2_isClaimOf.1 ∈ zTb := List.mem_filter.mpr ⟨List.mem_append_right _ (List.mem_of_getElem? (i := 546) (by decide +kernel)), by decide +kernel⟩
theorem zt_mX2_isClaimOf : Cond.instanceMethod mX2_isClaimOf.1 ∈ zTb ∧ Cond.selects mX2_isClaimOf.1.cls mX2_isClaimOf.1 mX2_isClaimOf.1 ∈ zTb := ⟨zw545, zw546⟩
theorem zw616 : Cond.instanceMethod mX2_isExpiredClaim.1 ∈ zTb := List.mem_filter.mpr ⟨List.mem_append_right _ (List.mem_of_getElem? (i := 616) (by decide +kernel)), by decide +kernel⟩
theorem zw617 : Cond.selects mX2_isExpiredClaim.1.cls mX2_isExpiredClaim.1 mX2_isExpiredClaim.1 ∈ zTb := List.mem_filter.mpr ⟨List.mem_append_right _ (List.mem_of_getElem? (i := 617) (by decide +kernel)), by decide +kernel⟩
theorem zt_mX2_isExpiredClaim : Cond.instanceMethod mX2_isExpiredClaim.1 ∈ zTb ∧ Cond.selects mX2_isExpiredClaim.1.cls mX2_isExpiredClaim.1 mX2_isExpiredClaim.1 ∈ zTb := ⟨zw616, zw617⟩
theorem zw549 : Cond.instanceMethod mX2_isLiveClaim.1 ∈ zTb := List.mem_filter.mpr ⟨List.mem_append_right _ (List.mem_of_getElem? (i := 549) (by decide +kernel)), by decide +kernel⟩
theorem zw550 : Cond.selects mX2_isLiveClaim.1.cls mX2_isLiveClaim.1 mX2_isLiveClaim.1 ∈ zTb := List.mem_filter.mpr ⟨List.mem_append_right _ (List.mem_of_getElem? (i := 550) (by decide +kernel)), by decide +kernel⟩
theorem zt_mX2_isLiveClaim : Cond.instanceMethod mX2_isLiveClaim.1 ∈ zTb ∧ Cond.selects mX2_isLiveClaim.1.cls mX2_isLiveClaim.1 mX2_isLiveClaim.1 ∈ zTb := ⟨zw549, zw550⟩
theorem zw612 : Cond.instanceMethod mX2_isBetter.1 ∈ zTb := List.mem_filter.mpr ⟨List.mem_append_right _ (List.mem_of_getElem? (i := 612) (by decide +kernel)), by decide +kernel⟩
theorem zw613 : Cond.selects mX2_isBetter.1.cls mX2_isBetter.1 mX2_isBetter.1 ∈ zTb := List.mem_filter.mpr ⟨List.mem_append_right _ (List.mem_of_getElem? (i := 613) (by decide +kernel)), by decide +kernel⟩
theorem zt_mX2_isBetter : Cond.instanceMethod mX2_isBetter.1 ∈ zTb ∧ Cond.selects mX2_isBetter.1.cls mX2_isBetter.1 mX2_isBetter.1 ∈ zTb := ⟨zw612, zw613⟩
theorem zw197 : Cond.instanceMethod mX3_init.1 ∈ zTb := List.mem_filter.mpr ⟨List.mem_append_right _ (List.mem_of_getElem? (i := 197) (by decide +kernel)), by decide +kernel⟩
theorem zt_mX3_init : Cond.instanceMethod mX3_init.1 ∈ zTb := zw197
theorem zw810 : Cond.instanceMethod mX3_findBest.1 ∈ zTb := List.mem_filter.mpr ⟨List.mem_append_right _ (List.mem_of_getElem? (i := 810) (by decide +kernel)), by decide +kernel⟩
theorem zw811 : Cond.selects mX3_findBest.1.cls mX3_findBest.1 mX3_findBest.1 ∈ zTb := List.mem_filter.mpr ⟨List.mem_append_right _ (List.mem_of_getElem? (i := 811) (by decide +kernel)), by decide +kernel⟩
theorem zt_mX3_findBest : Cond.instanceMethod mX3_findBest.1 ∈ zTb ∧ Cond.selects mX3_findBest.1.cls mX3_findBest.1 mX3_findBest.1 ∈ zTb := ⟨zw810, zw811⟩
theorem zw815 : Cond.instanceMethod mX3_mostFor.1 ∈ zTb := List.mem_filter.mpr ⟨List.mem_append_right _ (List.mem_of_getElem? (i := 815) (by decide +kernel)), by decide +kernel⟩
theorem zp11 : Cond.selects mX3_mostFor.1.cls mX3_mostFor.1 mX3_mostFor.1 ∈ zTb := List.mem_filter.mpr ⟨List.mem_append_left _ (List.mem_of_getElem? (i := 11) (by decide +kernel)), by decide +kernel⟩
theorem zt_mX3_mostFor : Cond.instanceMethod mX3_mostFor.1 ∈ zTb ∧ Cond.selects mX3_mostFor.1.cls mX3_mostFor.1 mX3_mostFor.1 ∈ zTb := ⟨zw815, zp11⟩
theorem zw818 : Cond.static mX3_mayTake.1 ∈ zTb := List.mem_filter.mpr ⟨List.mem_append_right _ (List.mem_of_getElem? (i := 818) (by decide +kernel)), by decide +kernel⟩
theorem zt_mX3_mayTake : Cond.static mX3_mayTake.1 ∈ zTb := zw818
theorem zw825 : Cond.instanceMethod mX3_worthOf.1 ∈ zTb := List.mem_filter.mpr ⟨List.mem_append_right _ (List.mem_of_getElem? (i := 825) (by decide +kernel)), by decide +kernel⟩
theorem zp12 : Cond.selects mX3_worthOf.1.cls mX3_worthOf.1 mX3_worthOf.1 ∈ zTb := List.mem_filter.mpr ⟨List.mem_append_left _ (List.mem_of_getElem? (i := 12) (by decide +kernel)), by decide +kernel⟩
theorem zt_mX3_worthOf : Cond.instanceMethod mX3_worthOf.1 ∈ zTb ∧ Cond.selects mX3_worthOf.1.cls mX3_worthOf.1 mX3_worthOf.1 ∈ zTb := ⟨zw825, zp12⟩
theorem zw833 : Cond.instanceMethod mX3_followBest.1 ∈ zTb := List.mem_filter.mpr ⟨List.mem_append_right _ (List.mem_of_getElem? (i := 833) (by decide +kernel)), by decide +kernel⟩
theorem zp13 : Cond.selects mX3_followBest.1.cls mX3_followBest.1 mX3_followBest.1 ∈ zTb := List.mem_filter.mpr ⟨List.mem_append_left _ (List.mem_of_getElem? (i := 13) (by decide +kernel)), by decide +kernel⟩
theorem zt_mX3_followBest : Cond.instanceMethod mX3_followBest.1 ∈ zTb ∧ Cond.selects mX3_followBest.1.cls mX3_followBest.1 mX3_followBest.1 ∈ zTb := ⟨zw833, zp13⟩
theorem zw837 : Cond.instanceMethod mX3_smallestBest.1 ∈ zTb := List.mem_filter.mpr ⟨List.mem_append_right _ (List.mem_of_getElem? (i := 837) (by decide +kernel)), by decide +kernel⟩
theorem zp14 : Cond.selects mX3_smallestBest.1.cls mX3_smallestBest.1 mX3_smallestBest.1 ∈ zTb := List.mem_filter.mpr ⟨List.mem_append_left _ (List.mem_of_getElem? (i := 14) (by decide +kernel)), by decide +kernel⟩
theorem zt_mX3_smallestBest : Cond.instanceMethod mX3_smallestBest.1 ∈ zTb ∧ Cond.selects mX3_smallestBest.1.cls mX3_smallestBest.1 mX3_smallestBest.1 ∈ zTb := ⟨zw837, zp14⟩
theorem zw175 : Cond.instanceMethod mX4_init.1 ∈ zTb := List.mem_filter.mpr ⟨List.mem_append_right _ (List.mem_of_getElem? (i := 175) (by decide +kernel)), by decide +kernel⟩
theorem zt_mX4_init : Cond.instanceMethod mX4_init.1 ∈ zTb := zw175
theorem zw595 : Cond.instanceMethod mX4_makeSteps.1 ∈ zTb := List.mem_filter.mpr ⟨List.mem_append_right _ (List.mem_of_getElem? (i := 595) (by decide +kernel)), by decide +kernel⟩
theorem zw596 : Cond.selects mX4_makeSteps.1.cls mX4_makeSteps.1 mX4_makeSteps.1 ∈ zTb := List.mem_filter.mpr ⟨List.mem_append_right _ (List.mem_of_getElem? (i := 596) (by decide +kernel)), by decide +kernel⟩
theorem zt_mX4_makeSteps : Cond.instanceMethod mX4_makeSteps.1 ∈ zTb ∧ Cond.selects mX4_makeSteps.1.cls mX4_makeSteps.1 mX4_makeSteps.1 ∈ zTb := ⟨zw595, zw596⟩
theorem zw602 : Cond.instanceMethod mX4_compareNotes.1 ∈ zTb := List.mem_filter.mpr ⟨List.mem_append_right _ (List.mem_of_getElem? (i := 602) (by decide +kernel)), by decide +kernel⟩
theorem zp8 : Cond.selects mX4_compareNotes.1.cls mX4_compareNotes.1 mX4_compareNotes.1 ∈ zTb := List.mem_filter.mpr ⟨List.mem_append_left _ (List.mem_of_getElem? (i := 8) (by decide +kernel)), by decide +kernel⟩
theorem zt_mX4_compareNotes : Cond.instanceMethod mX4_compareNotes.1 ∈ zTb ∧ Cond.selects mX4_compareNotes.1.cls mX4_compareNotes.1 mX4_compareNotes.1 ∈ zTb := ⟨zw602, zp8⟩
theorem zw608 : Cond.instanceMethod mX4_bestNote.1 ∈ zTb := List.mem_filter.mpr ⟨List.mem_append_right _ (List.mem_of_getElem? (i := 608) (by decide +kernel)), by decide +kernel⟩
theorem zp9 : Cond.selects mX4_bestNote.1.cls mX4_bestNote.1 mX4_bestNote.1 ∈ zTb := List.mem_filter.mpr ⟨List.mem_append_left _ (List.mem_of_getElem? (i := 9) (by decide +kernel)), by decide +kernel⟩
theorem zt_mX4_bestNote : Cond.instanceMethod mX4_bestNote.1 ∈ zTb ∧ Cond.selects mX4_bestNote.1.cls mX4_bestNote.1 mX4_bestNote.1 ∈ zTb := ⟨zw608, zp9⟩
theorem zw625 : Cond.static mX4_chooseClaim.1 ∈ zTb := List.mem_filter.mpr ⟨List.mem_append_right _ (List.mem_of_getElem? (i := 625) (by decide +kernel)), by decide +kernel⟩
theorem zt_mX4_chooseClaim : Cond.static mX4_chooseClaim.1 ∈ zTb := zw625
theorem zw628 : Cond.static mX4_nearest.1 ∈ zTb := List.mem_filter.mpr ⟨List.mem_append_right _ (List.mem_of_getElem? (i := 628) (by decide +kernel)), by decide +kernel⟩
theorem zt_mX4_nearest : Cond.static mX4_nearest.1 ∈ zTb := zw628
theorem zw644 : Cond.static mX4_workOrMove.1 ∈ zTb := List.mem_filter.mpr ⟨List.mem_append_right _ (List.mem_of_getElem? (i := 644) (by decide +kernel)), by decide +kernel⟩
theorem zt_mX4_workOrMove : Cond.static mX4_workOrMove.1 ∈ zTb := zw644
theorem zw648 : Cond.static mX4_moveTowards.1 ∈ zTb := List.mem_filter.mpr ⟨List.mem_append_right _ (List.mem_of_getElem? (i := 648) (by decide +kernel)), by decide +kernel⟩
theorem zt_mX4_moveTowards : Cond.static mX4_moveTowards.1 ∈ zTb := zw648
theorem zw30 : Cond.instanceMethod mX5_init.1 ∈ zTb := List.mem_filter.mpr ⟨List.mem_append_right _ (List.mem_of_getElem? (i := 30) (by decide +kernel)), by decide +kernel⟩
theorem zt_mX5_init : Cond.instanceMethod mX5_init.1 ∈ zTb := zw30
theorem zw437 : Cond.instanceMethod mX5_hasRoom.1 ∈ zTb := List.mem_filter.mpr ⟨List.mem_append_right _ (List.mem_of_getElem? (i := 437) (by decide +kernel)), by decide +kernel⟩
theorem zw438 : Cond.selects mX5_hasRoom.1.cls mX5_hasRoom.1 mX5_hasRoom.1 ∈ zTb := List.mem_filter.mpr ⟨List.mem_append_right _ (List.mem_of_getElem? (i := 438) (by decide +kernel)), by decide +kernel⟩
theorem zt_mX5_hasRoom : Cond.instanceMethod mX5_hasRoom.1 ∈ zTb ∧ Cond.selects mX5_hasRoom.1.cls mX5_hasRoom.1 mX5_hasRoom.1 ∈ zTb := ⟨zw437, zw438⟩
theorem zw460 : Cond.instanceMethod mX5_add.1 ∈ zTb := List.mem_filter.mpr ⟨List.mem_append_right _ (List.mem_of_getElem? (i := 460) (by decide +kernel)), by decide +kernel⟩
theorem zw461 : Cond.selects mX5_add.1.cls mX5_add.1 mX5_add.1 ∈ zTb := List.mem_filter.mpr ⟨List.mem_append_right _ (List.mem_of_getElem? (i := 461) (by decide +kernel)), by decide +kernel⟩
theorem zt_mX5_add : Cond.instanceMethod mX5_add.1 ∈ zTb ∧ Cond.selects mX5_add.1.cls mX5_add.1 mX5_add.1 ∈ zTb := ⟨zw460, zw461⟩
theorem zw249 : Cond.instanceMethod mX5_readInto.1 ∈ zTb := List.mem_filter.mpr ⟨List.mem_append_right _ (List.mem_of_getElem? (i := 249) (by decide +kernel)), by decide +kernel⟩
theorem zw250 : Cond.selects mX5_readInto.1.cls mX5_readInto.1 mX5_readInto.1 ∈ zTb := List.mem_filter.mpr ⟨List.mem_append_right _ (List.mem_of_getElem? (i := 250) (by decide +kernel)), by decide +kernel⟩
theorem zt_mX5_readInto : Cond.instanceMethod mX5_readInto.1 ∈ zTb ∧ Cond.selects mX5_readInto.1.cls mX5_readInto.1 mX5_readInto.1 ∈ zTb := ⟨zw249, zw250⟩
theorem zw278 : Cond.instanceMethod mX5_readAgent.1 ∈ zTb := List.mem_filter.mpr ⟨List.mem_append_right _ (List.mem_of_getElem? (i := 278) (by decide +kernel)), by decide +kernel⟩
theorem zp4 : Cond.selects mX5_readAgent.1.cls mX5_readAgent.1 mX5_readAgent.1 ∈ zTb := List.mem_filter.mpr ⟨List.mem_append_left _ (List.mem_of_getElem? (i := 4) (by decide +kernel)), by decide +kernel⟩
theorem zt_mX5_readAgent : Cond.instanceMethod mX5_readAgent.1 ∈ zTb ∧ Cond.selects mX5_readAgent.1.cls mX5_readAgent.1 mX5_readAgent.1 ∈ zTb := ⟨zw278, zp4⟩
theorem zw290 : Cond.instanceMethod mX5_readTask.1 ∈ zTb := List.mem_filter.mpr ⟨List.mem_append_right _ (List.mem_of_getElem? (i := 290) (by decide +kernel)), by decide +kernel⟩
theorem zp6 : Cond.selects mX5_readTask.1.cls mX5_readTask.1 mX5_readTask.1 ∈ zTb := List.mem_filter.mpr ⟨List.mem_append_left _ (List.mem_of_getElem? (i := 6) (by decide +kernel)), by decide +kernel⟩
theorem zt_mX5_readTask : Cond.instanceMethod mX5_readTask.1 ∈ zTb ∧ Cond.selects mX5_readTask.1.cls mX5_readTask.1 mX5_readTask.1 ∈ zTb := ⟨zw290, zp6⟩
theorem zw282 : Cond.instanceMethod mX5_badInPlace.1 ∈ zTb := List.mem_filter.mpr ⟨List.mem_append_right _ (List.mem_of_getElem? (i := 282) (by decide +kernel)), by decide +kernel⟩
theorem zp5 : Cond.selects mX5_badInPlace.1.cls mX5_badInPlace.1 mX5_badInPlace.1 ∈ zTb := List.mem_filter.mpr ⟨List.mem_append_left _ (List.mem_of_getElem? (i := 5) (by decide +kernel)), by decide +kernel⟩
theorem zt_mX5_badInPlace : Cond.instanceMethod mX5_badInPlace.1 ∈ zTb ∧ Cond.selects mX5_badInPlace.1.cls mX5_badInPlace.1 mX5_badInPlace.1 ∈ zTb := ⟨zw282, zp5⟩
theorem zw258 : Cond.instanceMethod mX5_badInNumber.1 ∈ zTb := List.mem_filter.mpr ⟨List.mem_append_right _ (List.mem_of_getElem? (i := 258) (by decide +kernel)), by decide +kernel⟩
theorem zp1 : Cond.selects mX5_badInNumber.1.cls mX5_badInNumber.1 mX5_badInNumber.1 ∈ zTb := List.mem_filter.mpr ⟨List.mem_append_left _ (List.mem_of_getElem? (i := 1) (by decide +kernel)), by decide +kernel⟩
theorem zt_mX5_badInNumber : Cond.instanceMethod mX5_badInNumber.1 ∈ zTb ∧ Cond.selects mX5_badInNumber.1.cls mX5_badInNumber.1 mX5_badInNumber.1 ∈ zTb := ⟨zw258, zp1⟩
theorem zw266 : Cond.instanceMethod mX5_numberAt.1 ∈ zTb := List.mem_filter.mpr ⟨List.mem_append_right _ (List.mem_of_getElem? (i := 266) (by decide +kernel)), by decide +kernel⟩
theorem zp3 : Cond.selects mX5_numberAt.1.cls mX5_numberAt.1 mX5_numberAt.1 ∈ zTb := List.mem_filter.mpr ⟨List.mem_append_left _ (List.mem_of_getElem? (i := 3) (by decide +kernel)), by decide +kernel⟩
theorem zt_mX5_numberAt : Cond.instanceMethod mX5_numberAt.1 ∈ zTb ∧ Cond.selects mX5_numberAt.1.cls mX5_numberAt.1 mX5_numberAt.1 ∈ zTb := ⟨zw266, zp3⟩
theorem zw262 : Cond.instanceMethod mX5_digitAt.1 ∈ zTb := List.mem_filter.mpr ⟨List.mem_append_right _ (List.mem_of_getElem? (i := 262) (by decide +kernel)), by decide +kernel⟩
theorem zp2 : Cond.selects mX5_digitAt.1.cls mX5_digitAt.1 mX5_digitAt.1 ∈ zTb := List.mem_filter.mpr ⟨List.mem_append_left _ (List.mem_of_getElem? (i := 2) (by decide +kernel)), by decide +kernel⟩
theorem zt_mX5_digitAt : Cond.instanceMethod mX5_digitAt.1 ∈ zTb ∧ Cond.selects mX5_digitAt.1.cls mX5_digitAt.1 mX5_digitAt.1 ∈ zTb := ⟨zw262, zp2⟩
theorem zw254 : Cond.instanceMethod mX5_codeAt.1 ∈ zTb := List.mem_filter.mpr ⟨List.mem_append_right _ (List.mem_of_getElem? (i := 254) (by decide +kernel)), by decide +kernel⟩
theorem zp0 : Cond.selects mX5_codeAt.1.cls mX5_codeAt.1 mX5_codeAt.1 ∈ zTb := List.mem_filter.mpr ⟨List.mem_append_left _ (List.mem_of_getElem? (i := 0) (by decide +kernel)), by decide +kernel⟩
theorem zt_mX5_codeAt : Cond.instanceMethod mX5_codeAt.1 ∈ zTb ∧ Cond.selects mX5_codeAt.1.cls mX5_codeAt.1 mX5_codeAt.1 ∈ zTb := ⟨zw254, zp0⟩
theorem zw45 : Cond.instanceMethod mX6_init.1 ∈ zTb := List.mem_filter.mpr ⟨List.mem_append_right _ (List.mem_of_getElem? (i := 45) (by decide +kernel)), by decide +kernel⟩
theorem zt_mX6_init : Cond.instanceMethod mX6_init.1 ∈ zTb := zw45
theorem zw338 : Cond.instanceMethod mX6_copyFrom.1 ∈ zTb := List.mem_filter.mpr ⟨List.mem_append_right _ (List.mem_of_getElem? (i := 338) (by decide +kernel)), by decide +kernel⟩
theorem zw339 : Cond.selects mX6_copyFrom.1.cls mX6_copyFrom.1 mX6_copyFrom.1 ∈ zTb := List.mem_filter.mpr ⟨List.mem_append_right _ (List.mem_of_getElem? (i := 339) (by decide +kernel)), by decide +kernel⟩
theorem zt_mX6_copyFrom : Cond.instanceMethod mX6_copyFrom.1 ∈ zTb ∧ Cond.selects mX6_copyFrom.1.cls mX6_copyFrom.1 mX6_copyFrom.1 ∈ zTb := ⟨zw338, zw339⟩
theorem zw269 : Cond.instanceMethod mX6_makeBare.1 ∈ zTb := List.mem_filter.mpr ⟨List.mem_append_right _ (List.mem_of_getElem? (i := 269) (by decide +kernel)), by decide +kernel⟩
theorem zw270 : Cond.selects mX6_makeBare.1.cls mX6_makeBare.1 mX6_makeBare.1 ∈ zTb := List.mem_filter.mpr ⟨List.mem_append_right _ (List.mem_of_getElem? (i := 270) (by decide +kernel)), by decide +kernel⟩
theorem zt_mX6_makeBare : Cond.instanceMethod mX6_makeBare.1 ∈ zTb ∧ Cond.selects mX6_makeBare.1.cls mX6_makeBare.1 mX6_makeBare.1 ∈ zTb := ⟨zw269, zw270⟩
theorem zw285 : Cond.instanceMethod mX6_addAgent.1 ∈ zTb := List.mem_filter.mpr ⟨List.mem_append_right _ (List.mem_of_getElem? (i := 285) (by decide +kernel)), by decide +kernel⟩
theorem zw286 : Cond.selects mX6_addAgent.1.cls mX6_addAgent.1 mX6_addAgent.1 ∈ zTb := List.mem_filter.mpr ⟨List.mem_append_right _ (List.mem_of_getElem? (i := 286) (by decide +kernel)), by decide +kernel⟩
theorem zt_mX6_addAgent : Cond.instanceMethod mX6_addAgent.1 ∈ zTb ∧ Cond.selects mX6_addAgent.1.cls mX6_addAgent.1 mX6_addAgent.1 ∈ zTb := ⟨zw285, zw286⟩
theorem zw293 : Cond.instanceMethod mX6_addTask.1 ∈ zTb := List.mem_filter.mpr ⟨List.mem_append_right _ (List.mem_of_getElem? (i := 293) (by decide +kernel)), by decide +kernel⟩
theorem zw294 : Cond.selects mX6_addTask.1.cls mX6_addTask.1 mX6_addTask.1 ∈ zTb := List.mem_filter.mpr ⟨List.mem_append_right _ (List.mem_of_getElem? (i := 294) (by decide +kernel)), by decide +kernel⟩
theorem zt_mX6_addTask : Cond.instanceMethod mX6_addTask.1 ∈ zTb ∧ Cond.selects mX6_addTask.1.cls mX6_addTask.1 mX6_addTask.1 ∈ zTb := ⟨zw293, zw294⟩
theorem zw510 : Cond.instanceMethod mX6_hasAgent.1 ∈ zTb := List.mem_filter.mpr ⟨List.mem_append_right _ (List.mem_of_getElem? (i := 510) (by decide +kernel)), by decide +kernel⟩
theorem zw511 : Cond.selects mX6_hasAgent.1.cls mX6_hasAgent.1 mX6_hasAgent.1 ∈ zTb := List.mem_filter.mpr ⟨List.mem_append_right _ (List.mem_of_getElem? (i := 511) (by decide +kernel)), by decide +kernel⟩
theorem zt_mX6_hasAgent : Cond.instanceMethod mX6_hasAgent.1 ∈ zTb ∧ Cond.selects mX6_hasAgent.1.cls mX6_hasAgent.1 mX6_hasAgent.1 ∈ zTb := ⟨zw510, zw511⟩
theorem zw561 : Cond.instanceMethod mX6_hasTask.1 ∈ zTb := List.mem_filter.mpr ⟨List.mem_append_right _ (List.mem_of_getElem? (i := 561) (by decide +kernel)), by decide +kernel⟩
theorem zw562 : Cond.selects mX6_hasTask.1.cls mX6_hasTask.1 mX6_hasTask.1 ∈ zTb := List.mem_filter.mpr ⟨List.mem_append_right _ (List.mem_of_getElem? (i := 562) (by decide +kernel)), by decide +kernel⟩
theorem zt_mX6_hasTask : Cond.instanceMethod mX6_hasTask.1 ∈ zTb ∧ Cond.selects mX6_hasTask.1.cls mX6_hasTask.1 mX6_hasTask.1 ∈ zTb := ⟨zw561, zw562⟩
theorem zw324 : Cond.instanceMethod mX6_isOn.1 ∈ zTb := List.mem_filter.mpr ⟨List.mem_append_right _ (List.mem_of_getElem? (i := 324) (by decide +kernel)), by decide +kernel⟩
theorem zw325 : Cond.selects mX6_isOn.1.cls mX6_isOn.1 mX6_isOn.1 ∈ zTb := List.mem_filter.mpr ⟨List.mem_append_right _ (List.mem_of_getElem? (i := 325) (by decide +kernel)), by decide +kernel⟩
theorem zt_mX6_isOn : Cond.instanceMethod mX6_isOn.1 ∈ zTb ∧ Cond.selects mX6_isOn.1.cls mX6_isOn.1 mX6_isOn.1 ∈ zTb := ⟨zw324, zw325⟩
theorem zw487 : Cond.instanceMethod mX6_isFinished.1 ∈ zTb := List.mem_filter.mpr ⟨List.mem_append_right _ (List.mem_of_getElem? (i := 487) (by decide +kernel)), by decide +kernel⟩
theorem zw488 : Cond.selects mX6_isFinished.1.cls mX6_isFinished.1 mX6_isFinished.1 ∈ zTb := List.mem_filter.mpr ⟨List.mem_append_right _ (List.mem_of_getElem? (i := 488) (by decide +kernel)), by decide +kernel⟩
theorem zt_mX6_isFinished : Cond.instanceMethod mX6_isFinished.1 ∈ zTb ∧ Cond.selects mX6_isFinished.1.cls mX6_isFinished.1 mX6_isFinished.1 ∈ zTb := ⟨zw487, zw488⟩
theorem zw632 : Cond.instanceMethod mX6_wayToTask.1 ∈ zTb := List.mem_filter.mpr ⟨List.mem_append_right _ (List.mem_of_getElem? (i := 632) (by decide +kernel)), by decide +kernel⟩
theorem zw633 : Cond.selects mX6_wayToTask.1.cls mX6_wayToTask.1 mX6_wayToTask.1 ∈ zTb := List.mem_filter.mpr ⟨List.mem_append_right _ (List.mem_of_getElem? (i := 633) (by decide +kernel)), by decide +kernel⟩
theorem zt_mX6_wayToTask : Cond.instanceMethod mX6_wayToTask.1 ∈ zTb ∧ Cond.selects mX6_wayToTask.1.cls mX6_wayToTask.1 mX6_wayToTask.1 ∈ zTb := ⟨zw632, zw633⟩
theorem zw538 : Cond.instanceMethod mX6_ownsLiveClaim.1 ∈ zTb := List.mem_filter.mpr ⟨List.mem_append_right _ (List.mem_of_getElem? (i := 538) (by decide +kernel)), by decide +kernel⟩
theorem zw539 : Cond.selects mX6_ownsLiveClaim.1.cls mX6_ownsLiveClaim.1 mX6_ownsLiveClaim.1 ∈ zTb := List.mem_filter.mpr ⟨List.mem_append_right _ (List.mem_of_getElem? (i := 539) (by decide +kernel)), by decide +kernel⟩
theorem zt_mX6_ownsLiveClaim : Cond.instanceMethod mX6_ownsLiveClaim.1 ∈ zTb ∧ Cond.selects mX6_ownsLiveClaim.1.cls mX6_ownsLiveClaim.1 mX6_ownsLiveClaim.1 ∈ zTb := ⟨zw538, zw539⟩
theorem zw534 : Cond.instanceMethod mX6_ownTask.1 ∈ zTb := List.mem_filter.mpr ⟨List.mem_append_right _ (List.mem_of_getElem? (i := 534) (by decide +kernel)), by decide +kernel⟩
theorem zw535 : Cond.selects mX6_ownTask.1.cls mX6_ownTask.1 mX6_ownTask.1 ∈ zTb := List.mem_filter.mpr ⟨List.mem_append_right _ (List.mem_of_getElem? (i := 535) (by decide +kernel)), by decide +kernel⟩
theorem zt_mX6_ownTask : Cond.instanceMethod mX6_ownTask.1 ∈ zTb ∧ Cond.selects mX6_ownTask.1.cls mX6_ownTask.1 mX6_ownTask.1 ∈ zTb := ⟨zw534, zw535⟩
theorem zw320 : Cond.instanceMethod mX6_areInTouch.1 ∈ zTb := List.mem_filter.mpr ⟨List.mem_append_right _ (List.mem_of_getElem? (i := 320) (by decide +kernel)), by decide +kernel⟩
theorem zw321 : Cond.selects mX6_areInTouch.1.cls mX6_areInTouch.1 mX6_areInTouch.1 ∈ zTb := List.mem_filter.mpr ⟨List.mem_append_right _ (List.mem_of_getElem? (i := 321) (by decide +kernel)), by decide +kernel⟩
theorem zt_mX6_areInTouch : Cond.instanceMethod mX6_areInTouch.1 ∈ zTb ∧ Cond.selects mX6_areInTouch.1.cls mX6_areInTouch.1 mX6_areInTouch.1 ∈ zTb := ⟨zw320, zw321⟩
theorem zw316 : Cond.instanceMethod mX6_heardBy.1 ∈ zTb := List.mem_filter.mpr ⟨List.mem_append_right _ (List.mem_of_getElem? (i := 316) (by decide +kernel)), by decide +kernel⟩
theorem zw317 : Cond.selects mX6_heardBy.1.cls mX6_heardBy.1 mX6_heardBy.1 ∈ zTb := List.mem_filter.mpr ⟨List.mem_append_right _ (List.mem_of_getElem? (i := 317) (by decide +kernel)), by decide +kernel⟩
theorem zt_mX6_heardBy : Cond.instanceMethod mX6_heardBy.1 ∈ zTb ∧ Cond.selects mX6_heardBy.1.cls mX6_heardBy.1 mX6_heardBy.1 ∈ zTb := ⟨zw316, zw317⟩
theorem zw312 : Cond.instanceMethod mX6_passedOn.1 ∈ zTb := List.mem_filter.mpr ⟨List.mem_append_right _ (List.mem_of_getElem? (i := 312) (by decide +kernel)), by decide +kernel⟩
theorem zw313 : Cond.selects mX6_passedOn.1.cls mX6_passedOn.1 mX6_passedOn.1 ∈ zTb := List.mem_filter.mpr ⟨List.mem_append_right _ (List.mem_of_getElem? (i := 313) (by decide +kernel)), by decide +kernel⟩
theorem zt_mX6_passedOn : Cond.instanceMethod mX6_passedOn.1 ∈ zTb ∧ Cond.selects mX6_passedOn.1.cls mX6_passedOn.1 mX6_passedOn.1 ∈ zTb := ⟨zw312, zw313⟩
theorem zw301 : Cond.instanceMethod mX6_groupCount.1 ∈ zTb := List.mem_filter.mpr ⟨List.mem_append_right _ (List.mem_of_getElem? (i := 301) (by decide +kernel)), by decide +kernel⟩
theorem zw302 : Cond.selects mX6_groupCount.1.cls mX6_groupCount.1 mX6_groupCount.1 ∈ zTb := List.mem_filter.mpr ⟨List.mem_append_right _ (List.mem_of_getElem? (i := 302) (by decide +kernel)), by decide +kernel⟩
theorem zt_mX6_groupCount : Cond.instanceMethod mX6_groupCount.1 ∈ zTb ∧ Cond.selects mX6_groupCount.1.cls mX6_groupCount.1 mX6_groupCount.1 ∈ zTb := ⟨zw301, zw302⟩
theorem zw308 : Cond.instanceMethod mX6_groupOf.1 ∈ zTb := List.mem_filter.mpr ⟨List.mem_append_right _ (List.mem_of_getElem? (i := 308) (by decide +kernel)), by decide +kernel⟩
theorem zw309 : Cond.selects mX6_groupOf.1.cls mX6_groupOf.1 mX6_groupOf.1 ∈ zTb := List.mem_filter.mpr ⟨List.mem_append_right _ (List.mem_of_getElem? (i := 309) (by decide +kernel)), by decide +kernel⟩
theorem zt_mX6_groupOf : Cond.instanceMethod mX6_groupOf.1 ∈ zTb ∧ Cond.selects mX6_groupOf.1.cls mX6_groupOf.1 mX6_groupOf.1 ∈ zTb := ⟨zw308, zw309⟩
theorem zw667 : Cond.instanceMethod mX6_placeAgent.1 ∈ zTb := List.mem_filter.mpr ⟨List.mem_append_right _ (List.mem_of_getElem? (i := 667) (by decide +kernel)), by decide +kernel⟩
theorem zw668 : Cond.selects mX6_placeAgent.1.cls mX6_placeAgent.1 mX6_placeAgent.1 ∈ zTb := List.mem_filter.mpr ⟨List.mem_append_right _ (List.mem_of_getElem? (i := 668) (by decide +kernel)), by decide +kernel⟩
theorem zt_mX6_placeAgent : Cond.instanceMethod mX6_placeAgent.1 ∈ zTb ∧ Cond.selects mX6_placeAgent.1.cls mX6_placeAgent.1 mX6_placeAgent.1 ∈ zTb := ⟨zw667, zw668⟩
theorem zw678 : Cond.instanceMethod mX6_switchAgent.1 ∈ zTb := List.mem_filter.mpr ⟨List.mem_append_right _ (List.mem_of_getElem? (i := 678) (by decide +kernel)), by decide +kernel⟩
theorem zw679 : Cond.selects mX6_switchAgent.1.cls mX6_switchAgent.1 mX6_switchAgent.1 ∈ zTb := List.mem_filter.mpr ⟨List.mem_append_right _ (List.mem_of_getElem? (i := 679) (by decide +kernel)), by decide +kernel⟩
theorem zt_mX6_switchAgent : Cond.instanceMethod mX6_switchAgent.1 ∈ zTb ∧ Cond.selects mX6_switchAgent.1.cls mX6_switchAgent.1 mX6_switchAgent.1 ∈ zTb := ⟨zw678, zw679⟩
theorem zw350 : Cond.instanceMethod mX6_setAllRanges.1 ∈ zTb := List.mem_filter.mpr ⟨List.mem_append_right _ (List.mem_of_getElem? (i := 350) (by decide +kernel)), by decide +kernel⟩
theorem zw351 : Cond.selects mX6_setAllRanges.1.cls mX6_setAllRanges.1 mX6_setAllRanges.1 ∈ zTb := List.mem_filter.mpr ⟨List.mem_append_right _ (List.mem_of_getElem? (i := 351) (by decide +kernel)), by decide +kernel⟩
theorem zt_mX6_setAllRanges : Cond.instanceMethod mX6_setAllRanges.1 ∈ zTb ∧ Cond.selects mX6_setAllRanges.1.cls mX6_setAllRanges.1 mX6_setAllRanges.1 ∈ zTb := ⟨zw350, zw351⟩
theorem zw695 : Cond.instanceMethod mX6_canPassClaim.1 ∈ zTb := List.mem_filter.mpr ⟨List.mem_append_right _ (List.mem_of_getElem? (i := 695) (by decide +kernel)), by decide +kernel⟩
theorem zw696 : Cond.selects mX6_canPassClaim.1.cls mX6_canPassClaim.1 mX6_canPassClaim.1 ∈ zTb := List.mem_filter.mpr ⟨List.mem_append_right _ (List.mem_of_getElem? (i := 696) (by decide +kernel)), by decide +kernel⟩
theorem zt_mX6_canPassClaim : Cond.instanceMethod mX6_canPassClaim.1 ∈ zTb ∧ Cond.selects mX6_canPassClaim.1.cls mX6_canPassClaim.1 mX6_canPassClaim.1 ∈ zTb := ⟨zw695, zw696⟩
theorem zw700 : Cond.instanceMethod mX6_passClaim.1 ∈ zTb := List.mem_filter.mpr ⟨List.mem_append_right _ (List.mem_of_getElem? (i := 700) (by decide +kernel)), by decide +kernel⟩
theorem zw701 : Cond.selects mX6_passClaim.1.cls mX6_passClaim.1 mX6_passClaim.1 ∈ zTb := List.mem_filter.mpr ⟨List.mem_append_right _ (List.mem_of_getElem? (i := 701) (by decide +kernel)), by decide +kernel⟩
theorem zt_mX6_passClaim : Cond.instanceMethod mX6_passClaim.1 ∈ zTb ∧ Cond.selects mX6_passClaim.1.cls mX6_passClaim.1 mX6_passClaim.1 ∈ zTb := ⟨zw700, zw701⟩
theorem zw636 : Cond.instanceMethod mX6_dropClaims.1 ∈ zTb := List.mem_filter.mpr ⟨List.mem_append_right _ (List.mem_of_getElem? (i := 636) (by decide +kernel)), by decide +kernel⟩
theorem zw637 : Cond.selects mX6_dropClaims.1.cls mX6_dropClaims.1 mX6_dropClaims.1 ∈ zTb := List.mem_filter.mpr ⟨List.mem_append_right _ (List.mem_of_getElem? (i := 637) (by decide +kernel)), by decide +kernel⟩
theorem zt_mX6_dropClaims : Cond.instanceMethod mX6_dropClaims.1 ∈ zTb ∧ Cond.selects mX6_dropClaims.1.cls mX6_dropClaims.1 mX6_dropClaims.1 ∈ zTb := ⟨zw636, zw637⟩
theorem zw483 : Cond.instanceMethod mX6_finishedTasks.1 ∈ zTb := List.mem_filter.mpr ⟨List.mem_append_right _ (List.mem_of_getElem? (i := 483) (by decide +kernel)), by decide +kernel⟩
theorem zw484 : Cond.selects mX6_finishedTasks.1.cls mX6_finishedTasks.1 mX6_finishedTasks.1 ∈ zTb := List.mem_filter.mpr ⟨List.mem_append_right _ (List.mem_of_getElem? (i := 484) (by decide +kernel)), by decide +kernel⟩
theorem zt_mX6_finishedTasks : Cond.instanceMethod mX6_finishedTasks.1 ∈ zTb ∧ Cond.selects mX6_finishedTasks.1.cls mX6_finishedTasks.1 mX6_finishedTasks.1 ∈ zTb := ⟨zw483, zw484⟩
theorem zw799 : Cond.instanceMethod mX6_allProgress.1 ∈ zTb := List.mem_filter.mpr ⟨List.mem_append_right _ (List.mem_of_getElem? (i := 799) (by decide +kernel)), by decide +kernel⟩
theorem zw800 : Cond.selects mX6_allProgress.1.cls mX6_allProgress.1 mX6_allProgress.1 ∈ zTb := List.mem_filter.mpr ⟨List.mem_append_right _ (List.mem_of_getElem? (i := 800) (by decide +kernel)), by decide +kernel⟩
theorem zt_mX6_allProgress : Cond.instanceMethod mX6_allProgress.1 ∈ zTb ∧ Cond.selects mX6_allProgress.1.cls mX6_allProgress.1 mX6_allProgress.1 ∈ zTb := ⟨zw799, zw800⟩
theorem zw491 : Cond.instanceMethod mX6_allMoves.1 ∈ zTb := List.mem_filter.mpr ⟨List.mem_append_right _ (List.mem_of_getElem? (i := 491) (by decide +kernel)), by decide +kernel⟩
theorem zw492 : Cond.selects mX6_allMoves.1.cls mX6_allMoves.1 mX6_allMoves.1 ∈ zTb := List.mem_filter.mpr ⟨List.mem_append_right _ (List.mem_of_getElem? (i := 492) (by decide +kernel)), by decide +kernel⟩
theorem zt_mX6_allMoves : Cond.instanceMethod mX6_allMoves.1 ∈ zTb ∧ Cond.selects mX6_allMoves.1.cls mX6_allMoves.1 mX6_allMoves.1 ∈ zTb := ⟨zw491, zw492⟩
theorem zw498 : Cond.instanceMethod mX6_allWasted.1 ∈ zTb := List.mem_filter.mpr ⟨List.mem_append_right _ (List.mem_of_getElem? (i := 498) (by decide +kernel)), by decide +kernel⟩
theorem zw499 : Cond.selects mX6_allWasted.1.cls mX6_allWasted.1 mX6_allWasted.1 ∈ zTb := List.mem_filter.mpr ⟨List.mem_append_right _ (List.mem_of_getElem? (i := 499) (by decide +kernel)), by decide +kernel⟩
theorem zt_mX6_allWasted : Cond.instanceMethod mX6_allWasted.1 ∈ zTb ∧ Cond.selects mX6_allWasted.1.cls mX6_allWasted.1 mX6_allWasted.1 ∈ zTb := ⟨zw498, zw499⟩
theorem zw495 : Cond.static mX6_sumOf.1 ∈ zTb := List.mem_filter.mpr ⟨List.mem_append_right _ (List.mem_of_getElem? (i := 495) (by decide +kernel)), by decide +kernel⟩
theorem zt_mX6_sumOf : Cond.static mX6_sumOf.1 ∈ zTb := zw495
theorem zw566 : Cond.instanceMethod mX6_knowers.1 ∈ zTb := List.mem_filter.mpr ⟨List.mem_append_right _ (List.mem_of_getElem? (i := 566) (by decide +kernel)), by decide +kernel⟩
theorem zw567 : Cond.selects mX6_knowers.1.cls mX6_knowers.1 mX6_knowers.1 ∈ zTb := List.mem_filter.mpr ⟨List.mem_append_right _ (List.mem_of_getElem? (i := 567) (by decide +kernel)), by decide +kernel⟩
theorem zt_mX6_knowers : Cond.instanceMethod mX6_knowers.1 ∈ zTb ∧ Cond.selects mX6_knowers.1.cls mX6_knowers.1 mX6_knowers.1 ∈ zTb := ⟨zw566, zw567⟩
theorem zw777 : Cond.instanceMethod mX6_isKnownToAll.1 ∈ zTb := List.mem_filter.mpr ⟨List.mem_append_right _ (List.mem_of_getElem? (i := 777) (by decide +kernel)), by decide +kernel⟩
theorem zw778 : Cond.selects mX6_isKnownToAll.1.cls mX6_isKnownToAll.1 mX6_isKnownToAll.1 ∈ zTb := List.mem_filter.mpr ⟨List.mem_append_right _ (List.mem_of_getElem? (i := 778) (by decide +kernel)), by decide +kernel⟩
theorem zt_mX6_isKnownToAll : Cond.instanceMethod mX6_isKnownToAll.1 ∈ zTb ∧ Cond.selects mX6_isKnownToAll.1.cls mX6_isKnownToAll.1 mX6_isKnownToAll.1 ∈ zTb := ⟨zw777, zw778⟩
theorem zw570 : Cond.instanceMethod mX6_claimants.1 ∈ zTb := List.mem_filter.mpr ⟨List.mem_append_right _ (List.mem_of_getElem? (i := 570) (by decide +kernel)), by decide +kernel⟩
theorem zw571 : Cond.selects mX6_claimants.1.cls mX6_claimants.1 mX6_claimants.1 ∈ zTb := List.mem_filter.mpr ⟨List.mem_append_right _ (List.mem_of_getElem? (i := 571) (by decide +kernel)), by decide +kernel⟩
theorem zt_mX6_claimants : Cond.instanceMethod mX6_claimants.1 ∈ zTb ∧ Cond.selects mX6_claimants.1.cls mX6_claimants.1 mX6_claimants.1 ∈ zTb := ⟨zw570, zw571⟩
theorem zw748 : Cond.instanceMethod mX6_doublyClaimed.1 ∈ zTb := List.mem_filter.mpr ⟨List.mem_append_right _ (List.mem_of_getElem? (i := 748) (by decide +kernel)), by decide +kernel⟩
theorem zw749 : Cond.selects mX6_doublyClaimed.1.cls mX6_doublyClaimed.1 mX6_doublyClaimed.1 ∈ zTb := List.mem_filter.mpr ⟨List.mem_append_right _ (List.mem_of_getElem? (i := 749) (by decide +kernel)), by decide +kernel⟩
theorem zt_mX6_doublyClaimed : Cond.instanceMethod mX6_doublyClaimed.1 ∈ zTb ∧ Cond.selects mX6_doublyClaimed.1.cls mX6_doublyClaimed.1 mX6_doublyClaimed.1 ∈ zTb := ⟨zw748, zw749⟩
theorem zw754 : Cond.instanceMethod mX6_unknownFinishes.1 ∈ zTb := List.mem_filter.mpr ⟨List.mem_append_right _ (List.mem_of_getElem? (i := 754) (by decide +kernel)), by decide +kernel⟩
theorem zw755 : Cond.selects mX6_unknownFinishes.1.cls mX6_unknownFinishes.1 mX6_unknownFinishes.1 ∈ zTb := List.mem_filter.mpr ⟨List.mem_append_right _ (List.mem_of_getElem? (i := 755) (by decide +kernel)), by decide +kernel⟩
theorem zt_mX6_unknownFinishes : Cond.instanceMethod mX6_unknownFinishes.1 ∈ zTb ∧ Cond.selects mX6_unknownFinishes.1.cls mX6_unknownFinishes.1 mX6_unknownFinishes.1 ∈ zTb := ⟨zw754, zw755⟩
theorem zw759 : Cond.instanceMethod mX6_claimsOfLostAgents.1 ∈ zTb := List.mem_filter.mpr ⟨List.mem_append_right _ (List.mem_of_getElem? (i := 759) (by decide +kernel)), by decide +kernel⟩
theorem zw760 : Cond.selects mX6_claimsOfLostAgents.1.cls mX6_claimsOfLostAgents.1 mX6_claimsOfLostAgents.1 ∈ zTb := List.mem_filter.mpr ⟨List.mem_append_right _ (List.mem_of_getElem? (i := 760) (by decide +kernel)), by decide +kernel⟩
theorem zt_mX6_claimsOfLostAgents : Cond.instanceMethod mX6_claimsOfLostAgents.1 ∈ zTb ∧ Cond.selects mX6_claimsOfLostAgents.1.cls mX6_claimsOfLostAgents.1 mX6_claimsOfLostAgents.1 ∈ zTb := ⟨zw759, zw760⟩
theorem zw22 : Cond.instanceMethod mX7_init.1 ∈ zTb := List.mem_filter.mpr ⟨List.mem_append_right _ (List.mem_of_getElem? (i := 22) (by decide +kernel)), by decide +kernel⟩
theorem zt_mX7_init : Cond.instanceMethod mX7_init.1 ∈ zTb := zw22
theorem zw359 : Cond.instanceMethod mX7_append.1 ∈ zTb := List.mem_filter.mpr ⟨List.mem_append_right _ (List.mem_of_getElem? (i := 359) (by decide +kernel)), by decide +kernel⟩
theorem zw360 : Cond.selects mX7_append.1.cls mX7_append.1 mX7_append.1 ∈ zTb := List.mem_filter.mpr ⟨List.mem_append_right _ (List.mem_of_getElem? (i := 360) (by decide +kernel)), by decide +kernel⟩
theorem zt_mX7_append : Cond.instanceMethod mX7_append.1 ∈ zTb ∧ Cond.selects mX7_append.1.cls mX7_append.1 mX7_append.1 ∈ zTb := ⟨zw359, zw360⟩
theorem zw241 : Cond.instanceMethod mX7_clearText.1 ∈ zTb := List.mem_filter.mpr ⟨List.mem_append_right _ (List.mem_of_getElem? (i := 241) (by decide +kernel)), by decide +kernel⟩
theorem zw242 : Cond.selects mX7_clearText.1.cls mX7_clearText.1 mX7_clearText.1 ∈ zTb := List.mem_filter.mpr ⟨List.mem_append_right _ (List.mem_of_getElem? (i := 242) (by decide +kernel)), by decide +kernel⟩
theorem zt_mX7_clearText : Cond.instanceMethod mX7_clearText.1 ∈ zTb ∧ Cond.selects mX7_clearText.1.cls mX7_clearText.1 mX7_clearText.1 ∈ zTb := ⟨zw241, zw242⟩
theorem zw245 : Cond.instanceMethod mX7_errorPosition.1 ∈ zTb := List.mem_filter.mpr ⟨List.mem_append_right _ (List.mem_of_getElem? (i := 245) (by decide +kernel)), by decide +kernel⟩
theorem zw246 : Cond.selects mX7_errorPosition.1.cls mX7_errorPosition.1 mX7_errorPosition.1 ∈ zTb := List.mem_filter.mpr ⟨List.mem_append_right _ (List.mem_of_getElem? (i := 246) (by decide +kernel)), by decide +kernel⟩
theorem zt_mX7_errorPosition : Cond.instanceMethod mX7_errorPosition.1 ∈ zTb ∧ Cond.selects mX7_errorPosition.1.cls mX7_errorPosition.1 mX7_errorPosition.1 ∈ zTb := ⟨zw245, zw246⟩
theorem zw468 : Cond.instanceMethod mX7_load.1 ∈ zTb := List.mem_filter.mpr ⟨List.mem_append_right _ (List.mem_of_getElem? (i := 468) (by decide +kernel)), by decide +kernel⟩
theorem zw469 : Cond.selects mX7_load.1.cls mX7_load.1 mX7_load.1 ∈ zTb := List.mem_filter.mpr ⟨List.mem_append_right _ (List.mem_of_getElem? (i := 469) (by decide +kernel)), by decide +kernel⟩
theorem zt_mX7_load : Cond.instanceMethod mX7_load.1 ∈ zTb ∧ Cond.selects mX7_load.1.cls mX7_load.1 mX7_load.1 ∈ zTb := ⟨zw468, zw469⟩
theorem zw479 : Cond.instanceMethod mX7_about.1 ∈ zTb := List.mem_filter.mpr ⟨List.mem_append_right _ (List.mem_of_getElem? (i := 479) (by decide +kernel)), by decide +kernel⟩
theorem zw480 : Cond.selects mX7_about.1.cls mX7_about.1 mX7_about.1 ∈ zTb := List.mem_filter.mpr ⟨List.mem_append_right _ (List.mem_of_getElem? (i := 480) (by decide +kernel)), by decide +kernel⟩
theorem zt_mX7_about : Cond.instanceMethod mX7_about.1 ∈ zTb ∧ Cond.selects mX7_about.1.cls mX7_about.1 mX7_about.1 ∈ zTb := ⟨zw479, zw480⟩
theorem zw506 : Cond.instanceMethod mX7_agent.1 ∈ zTb := List.mem_filter.mpr ⟨List.mem_append_right _ (List.mem_of_getElem? (i := 506) (by decide +kernel)), by decide +kernel⟩
theorem zw507 : Cond.selects mX7_agent.1.cls mX7_agent.1 mX7_agent.1 ∈ zTb := List.mem_filter.mpr ⟨List.mem_append_right _ (List.mem_of_getElem? (i := 507) (by decide +kernel)), by decide +kernel⟩
theorem zt_mX7_agent : Cond.instanceMethod mX7_agent.1 ∈ zTb ∧ Cond.selects mX7_agent.1.cls mX7_agent.1 mX7_agent.1 ∈ zTb := ⟨zw506, zw507⟩
theorem zw557 : Cond.instanceMethod mX7_task.1 ∈ zTb := List.mem_filter.mpr ⟨List.mem_append_right _ (List.mem_of_getElem? (i := 557) (by decide +kernel)), by decide +kernel⟩
theorem zw558 : Cond.selects mX7_task.1.cls mX7_task.1 mX7_task.1 ∈ zTb := List.mem_filter.mpr ⟨List.mem_append_right _ (List.mem_of_getElem? (i := 558) (by decide +kernel)), by decide +kernel⟩
theorem zt_mX7_task : Cond.instanceMethod mX7_task.1 ∈ zTb ∧ Cond.selects mX7_task.1.cls mX7_task.1 mX7_task.1 ∈ zTb := ⟨zw557, zw558⟩
theorem zw577 : Cond.instanceMethod mX7_note.1 ∈ zTb := List.mem_filter.mpr ⟨List.mem_append_right _ (List.mem_of_getElem? (i := 577) (by decide +kernel)), by decide +kernel⟩
theorem zw578 : Cond.selects mX7_note.1.cls mX7_note.1 mX7_note.1 ∈ zTb := List.mem_filter.mpr ⟨List.mem_append_right _ (List.mem_of_getElem? (i := 578) (by decide +kernel)), by decide +kernel⟩
theorem zt_mX7_note : Cond.instanceMethod mX7_note.1 ∈ zTb ∧ Cond.selects mX7_note.1.cls mX7_note.1 mX7_note.1 ∈ zTb := ⟨zw577, zw578⟩
theorem zw585 : Cond.instanceMethod mX7_step.1 ∈ zTb := List.mem_filter.mpr ⟨List.mem_append_right _ (List.mem_of_getElem? (i := 585) (by decide +kernel)), by decide +kernel⟩
theorem zw586 : Cond.selects mX7_step.1.cls mX7_step.1 mX7_step.1 ∈ zTb := List.mem_filter.mpr ⟨List.mem_append_right _ (List.mem_of_getElem? (i := 586) (by decide +kernel)), by decide +kernel⟩
theorem zt_mX7_step : Cond.instanceMethod mX7_step.1 ∈ zTb ∧ Cond.selects mX7_step.1.cls mX7_step.1 mX7_step.1 ∈ zTb := ⟨zw585, zw586⟩
theorem zw655 : Cond.instanceMethod mX7_setRange.1 ∈ zTb := List.mem_filter.mpr ⟨List.mem_append_right _ (List.mem_of_getElem? (i := 655) (by decide +kernel)), by decide +kernel⟩
theorem zw656 : Cond.selects mX7_setRange.1.cls mX7_setRange.1 mX7_setRange.1 ∈ zTb := List.mem_filter.mpr ⟨List.mem_append_right _ (List.mem_of_getElem? (i := 656) (by decide +kernel)), by decide +kernel⟩
theorem zt_mX7_setRange : Cond.instanceMethod mX7_setRange.1 ∈ zTb ∧ Cond.selects mX7_setRange.1.cls mX7_setRange.1 mX7_setRange.1 ∈ zTb := ⟨zw655, zw656⟩
theorem zw662 : Cond.instanceMethod mX7_put.1 ∈ zTb := List.mem_filter.mpr ⟨List.mem_append_right _ (List.mem_of_getElem? (i := 662) (by decide +kernel)), by decide +kernel⟩
theorem zw663 : Cond.selects mX7_put.1.cls mX7_put.1 mX7_put.1 ∈ zTb := List.mem_filter.mpr ⟨List.mem_append_right _ (List.mem_of_getElem? (i := 663) (by decide +kernel)), by decide +kernel⟩
theorem zt_mX7_put : Cond.instanceMethod mX7_put.1 ∈ zTb ∧ Cond.selects mX7_put.1.cls mX7_put.1 mX7_put.1 ∈ zTb := ⟨zw662, zw663⟩
theorem zw674 : Cond.instanceMethod mX7_toggle.1 ∈ zTb := List.mem_filter.mpr ⟨List.mem_append_right _ (List.mem_of_getElem? (i := 674) (by decide +kernel)), by decide +kernel⟩
theorem zw675 : Cond.selects mX7_toggle.1.cls mX7_toggle.1 mX7_toggle.1 ∈ zTb := List.mem_filter.mpr ⟨List.mem_append_right _ (List.mem_of_getElem? (i := 675) (by decide +kernel)), by decide +kernel⟩
theorem zt_mX7_toggle : Cond.instanceMethod mX7_toggle.1 ∈ zTb ∧ Cond.selects mX7_toggle.1.cls mX7_toggle.1 mX7_toggle.1 ∈ zTb := ⟨zw674, zw675⟩
theorem zw691 : Cond.instanceMethod mX7_handOver.1 ∈ zTb := List.mem_filter.mpr ⟨List.mem_append_right _ (List.mem_of_getElem? (i := 691) (by decide +kernel)), by decide +kernel⟩
theorem zw692 : Cond.selects mX7_handOver.1.cls mX7_handOver.1 mX7_handOver.1 ∈ zTb := List.mem_filter.mpr ⟨List.mem_append_right _ (List.mem_of_getElem? (i := 692) (by decide +kernel)), by decide +kernel⟩
theorem zt_mX7_handOver : Cond.instanceMethod mX7_handOver.1 ∈ zTb ∧ Cond.selects mX7_handOver.1.cls mX7_handOver.1 mX7_handOver.1 ∈ zTb := ⟨zw691, zw692⟩
theorem zw709 : Cond.instanceMethod mX7_drop.1 ∈ zTb := List.mem_filter.mpr ⟨List.mem_append_right _ (List.mem_of_getElem? (i := 709) (by decide +kernel)), by decide +kernel⟩
theorem zw710 : Cond.selects mX7_drop.1.cls mX7_drop.1 mX7_drop.1 ∈ zTb := List.mem_filter.mpr ⟨List.mem_append_right _ (List.mem_of_getElem? (i := 710) (by decide +kernel)), by decide +kernel⟩
theorem zt_mX7_drop : Cond.instanceMethod mX7_drop.1 ∈ zTb ∧ Cond.selects mX7_drop.1.cls mX7_drop.1 mX7_drop.1 ∈ zTb := ⟨zw709, zw710⟩
theorem zw717 : Cond.instanceMethod mX7_setLifetime.1 ∈ zTb := List.mem_filter.mpr ⟨List.mem_append_right _ (List.mem_of_getElem? (i := 717) (by decide +kernel)), by decide +kernel⟩
theorem zw718 : Cond.selects mX7_setLifetime.1.cls mX7_setLifetime.1 mX7_setLifetime.1 ∈ zTb := List.mem_filter.mpr ⟨List.mem_append_right _ (List.mem_of_getElem? (i := 718) (by decide +kernel)), by decide +kernel⟩
theorem zt_mX7_setLifetime : Cond.instanceMethod mX7_setLifetime.1 ∈ zTb ∧ Cond.selects mX7_setLifetime.1.cls mX7_setLifetime.1 mX7_setLifetime.1 ∈ zTb := ⟨zw717, zw718⟩
theorem zw724 : Cond.instanceMethod mX7_undo.1 ∈ zTb := List.mem_filter.mpr ⟨List.mem_append_right _ (List.mem_of_getElem? (i := 724) (by decide +kernel)), by decide +kernel⟩
theorem zw725 : Cond.selects mX7_undo.1.cls mX7_undo.1 mX7_undo.1 ∈ zTb := List.mem_filter.mpr ⟨List.mem_append_right _ (List.mem_of_getElem? (i := 725) (by decide +kernel)), by decide +kernel⟩
theorem zt_mX7_undo : Cond.instanceMethod mX7_undo.1 ∈ zTb ∧ Cond.selects mX7_undo.1.cls mX7_undo.1 mX7_undo.1 ∈ zTb := ⟨zw724, zw725⟩
theorem zw735 : Cond.instanceMethod mX7_hops.1 ∈ zTb := List.mem_filter.mpr ⟨List.mem_append_right _ (List.mem_of_getElem? (i := 735) (by decide +kernel)), by decide +kernel⟩
theorem zw736 : Cond.selects mX7_hops.1.cls mX7_hops.1 mX7_hops.1 ∈ zTb := List.mem_filter.mpr ⟨List.mem_append_right _ (List.mem_of_getElem? (i := 736) (by decide +kernel)), by decide +kernel⟩
theorem zt_mX7_hops : Cond.instanceMethod mX7_hops.1 ∈ zTb ∧ Cond.selects mX7_hops.1.cls mX7_hops.1 mX7_hops.1 ∈ zTb := ⟨zw735, zw736⟩
theorem zw297 : Cond.instanceMethod mX7_groups.1 ∈ zTb := List.mem_filter.mpr ⟨List.mem_append_right _ (List.mem_of_getElem? (i := 297) (by decide +kernel)), by decide +kernel⟩
theorem zw298 : Cond.selects mX7_groups.1.cls mX7_groups.1 mX7_groups.1 ∈ zTb := List.mem_filter.mpr ⟨List.mem_append_right _ (List.mem_of_getElem? (i := 298) (by decide +kernel)), by decide +kernel⟩
theorem zt_mX7_groups : Cond.instanceMethod mX7_groups.1 ∈ zTb ∧ Cond.selects mX7_groups.1.cls mX7_groups.1 mX7_groups.1 ∈ zTb := ⟨zw297, zw298⟩
theorem zw334 : Cond.instanceMethod mX7_rangeNeeded.1 ∈ zTb := List.mem_filter.mpr ⟨List.mem_append_right _ (List.mem_of_getElem? (i := 334) (by decide +kernel)), by decide +kernel⟩
theorem zw335 : Cond.selects mX7_rangeNeeded.1.cls mX7_rangeNeeded.1 mX7_rangeNeeded.1 ∈ zTb := List.mem_filter.mpr ⟨List.mem_append_right _ (List.mem_of_getElem? (i := 335) (by decide +kernel)), by decide +kernel⟩
theorem zt_mX7_rangeNeeded : Cond.instanceMethod mX7_rangeNeeded.1 ∈ zTb ∧ Cond.selects mX7_rangeNeeded.1.cls mX7_rangeNeeded.1 mX7_rangeNeeded.1 ∈ zTb := ⟨zw334, zw335⟩
theorem zw744 : Cond.instanceMethod mX7_conflicts.1 ∈ zTb := List.mem_filter.mpr ⟨List.mem_append_right _ (List.mem_of_getElem? (i := 744) (by decide +kernel)), by decide +kernel⟩
theorem zw745 : Cond.selects mX7_conflicts.1.cls mX7_conflicts.1 mX7_conflicts.1 ∈ zTb := List.mem_filter.mpr ⟨List.mem_append_right _ (List.mem_of_getElem? (i := 745) (by decide +kernel)), by decide +kernel⟩
theorem zt_mX7_conflicts : Cond.instanceMethod mX7_conflicts.1 ∈ zTb ∧ Cond.selects mX7_conflicts.1.cls mX7_conflicts.1 mX7_conflicts.1 ∈ zTb := ⟨zw744, zw745⟩
theorem zw766 : Cond.instanceMethod mX7_finishedAfter.1 ∈ zTb := List.mem_filter.mpr ⟨List.mem_append_right _ (List.mem_of_getElem? (i := 766) (by decide +kernel)), by decide +kernel⟩
theorem zw767 : Cond.selects mX7_finishedAfter.1.cls mX7_finishedAfter.1 mX7_finishedAfter.1 ∈ zTb := List.mem_filter.mpr ⟨List.mem_append_right _ (List.mem_of_getElem? (i := 767) (by decide +kernel)), by decide +kernel⟩
theorem zt_mX7_finishedAfter : Cond.instanceMethod mX7_finishedAfter.1 ∈ zTb ∧ Cond.selects mX7_finishedAfter.1.cls mX7_finishedAfter.1 mX7_finishedAfter.1 ∈ zTb := ⟨zw766, zw767⟩
theorem zw773 : Cond.instanceMethod mX7_knownAfter.1 ∈ zTb := List.mem_filter.mpr ⟨List.mem_append_right _ (List.mem_of_getElem? (i := 773) (by decide +kernel)), by decide +kernel⟩
theorem zw774 : Cond.selects mX7_knownAfter.1.cls mX7_knownAfter.1 mX7_knownAfter.1 ∈ zTb := List.mem_filter.mpr ⟨List.mem_append_right _ (List.mem_of_getElem? (i := 774) (by decide +kernel)), by decide +kernel⟩
theorem zt_mX7_knownAfter : Cond.instanceMethod mX7_knownAfter.1 ∈ zTb ∧ Cond.selects mX7_knownAfter.1.cls mX7_knownAfter.1 mX7_knownAfter.1 ∈ zTb := ⟨zw773, zw774⟩
theorem zw784 : Cond.instanceMethod mX7_wastedIf.1 ∈ zTb := List.mem_filter.mpr ⟨List.mem_append_right _ (List.mem_of_getElem? (i := 784) (by decide +kernel)), by decide +kernel⟩
theorem zw785 : Cond.selects mX7_wastedIf.1.cls mX7_wastedIf.1 mX7_wastedIf.1 ∈ zTb := List.mem_filter.mpr ⟨List.mem_append_right _ (List.mem_of_getElem? (i := 785) (by decide +kernel)), by decide +kernel⟩
theorem zt_mX7_wastedIf : Cond.instanceMethod mX7_wastedIf.1 ∈ zTb ∧ Cond.selects mX7_wastedIf.1.cls mX7_wastedIf.1 mX7_wastedIf.1 ∈ zTb := ⟨zw784, zw785⟩
theorem zw791 : Cond.instanceMethod mX7_worstLoss.1 ∈ zTb := List.mem_filter.mpr ⟨List.mem_append_right _ (List.mem_of_getElem? (i := 791) (by decide +kernel)), by decide +kernel⟩
theorem zw792 : Cond.selects mX7_worstLoss.1.cls mX7_worstLoss.1 mX7_worstLoss.1 ∈ zTb := List.mem_filter.mpr ⟨List.mem_append_right _ (List.mem_of_getElem? (i := 792) (by decide +kernel)), by decide +kernel⟩
theorem zt_mX7_worstLoss : Cond.instanceMethod mX7_worstLoss.1 ∈ zTb ∧ Cond.selects mX7_worstLoss.1.cls mX7_worstLoss.1 mX7_worstLoss.1 ∈ zTb := ⟨zw791, zw792⟩
theorem zw796 : Cond.instanceMethod mX7_progressWithout.1 ∈ zTb := List.mem_filter.mpr ⟨List.mem_append_right _ (List.mem_of_getElem? (i := 796) (by decide +kernel)), by decide +kernel⟩
theorem zp10 : Cond.selects mX7_progressWithout.1.cls mX7_progressWithout.1 mX7_progressWithout.1 ∈ zTb := List.mem_filter.mpr ⟨List.mem_append_left _ (List.mem_of_getElem? (i := 10) (by decide +kernel)), by decide +kernel⟩
theorem zt_mX7_progressWithout : Cond.instanceMethod mX7_progressWithout.1 ∈ zTb ∧ Cond.selects mX7_progressWithout.1.cls mX7_progressWithout.1 mX7_progressWithout.1 ∈ zTb := ⟨zw796, zp10⟩
theorem zw806 : Cond.instanceMethod mX7_bestShare.1 ∈ zTb := List.mem_filter.mpr ⟨List.mem_append_right _ (List.mem_of_getElem? (i := 806) (by decide +kernel)), by decide +kernel⟩
theorem zw807 : Cond.selects mX7_bestShare.1.cls mX7_bestShare.1 mX7_bestShare.1 ∈ zTb := List.mem_filter.mpr ⟨List.mem_append_right _ (List.mem_of_getElem? (i := 807) (by decide +kernel)), by decide +kernel⟩
theorem zt_mX7_bestShare : Cond.instanceMethod mX7_bestShare.1 ∈ zTb ∧ Cond.selects mX7_bestShare.1.cls mX7_bestShare.1 mX7_bestShare.1 ∈ zTb := ⟨zw806, zw807⟩
theorem zw843 : Cond.instanceMethod mX7_runScript.1 ∈ zTb := List.mem_filter.mpr ⟨List.mem_append_right _ (List.mem_of_getElem? (i := 843) (by decide +kernel)), by decide +kernel⟩
theorem zw844 : Cond.selects mX7_runScript.1.cls mX7_runScript.1 mX7_runScript.1 ∈ zTb := List.mem_filter.mpr ⟨List.mem_append_right _ (List.mem_of_getElem? (i := 844) (by decide +kernel)), by decide +kernel⟩
theorem zt_mX7_runScript : Cond.instanceMethod mX7_runScript.1 ∈ zTb ∧ Cond.selects mX7_runScript.1.cls mX7_runScript.1 mX7_runScript.1 ∈ zTb := ⟨zw843, zw844⟩
theorem zw868 : Cond.instanceMethod mX7_simulate.1 ∈ zTb := List.mem_filter.mpr ⟨List.mem_append_right _ (List.mem_of_getElem? (i := 868) (by decide +kernel)), by decide +kernel⟩
theorem zw869 : Cond.selects mX7_simulate.1.cls mX7_simulate.1 mX7_simulate.1 ∈ zTb := List.mem_filter.mpr ⟨List.mem_append_right _ (List.mem_of_getElem? (i := 869) (by decide +kernel)), by decide +kernel⟩
theorem zt_mX7_simulate : Cond.instanceMethod mX7_simulate.1 ∈ zTb ∧ Cond.selects mX7_simulate.1.cls mX7_simulate.1 mX7_simulate.1 ∈ zTb := ⟨zw868, zw869⟩
theorem zw874 : Cond.static mX7_disturb.1 ∈ zTb := List.mem_filter.mpr ⟨List.mem_append_right _ (List.mem_of_getElem? (i := 874) (by decide +kernel)), by decide +kernel⟩
theorem zt_mX7_disturb : Cond.static mX7_disturb.1 ∈ zTb := zw874
theorem zw880 : Cond.instanceMethod mX7_save.1 ∈ zTb := List.mem_filter.mpr ⟨List.mem_append_right _ (List.mem_of_getElem? (i := 880) (by decide +kernel)), by decide +kernel⟩
theorem zw881 : Cond.selects mX7_save.1.cls mX7_save.1 mX7_save.1 ∈ zTb := List.mem_filter.mpr ⟨List.mem_append_right _ (List.mem_of_getElem? (i := 881) (by decide +kernel)), by decide +kernel⟩
theorem zt_mX7_save : Cond.instanceMethod mX7_save.1 ∈ zTb ∧ Cond.selects mX7_save.1.cls mX7_save.1 mX7_save.1 ∈ zTb := ⟨zw880, zw881⟩
theorem zw887 : Cond.instanceMethod mX7_restore.1 ∈ zTb := List.mem_filter.mpr ⟨List.mem_append_right _ (List.mem_of_getElem? (i := 887) (by decide +kernel)), by decide +kernel⟩
theorem zw888 : Cond.selects mX7_restore.1.cls mX7_restore.1 mX7_restore.1 ∈ zTb := List.mem_filter.mpr ⟨List.mem_append_right _ (List.mem_of_getElem? (i := 888) (by decide +kernel)), by decide +kernel⟩
theorem zt_mX7_restore : Cond.instanceMethod mX7_restore.1 ∈ zTb ∧ Cond.selects mX7_restore.1.cls mX7_restore.1 mX7_restore.1 ∈ zTb := ⟨zw887, zw888⟩
theorem zw514 : Cond.static mX7_requireIndex.1 ∈ zTb := List.mem_filter.mpr ⟨List.mem_append_right _ (List.mem_of_getElem? (i := 514) (by decide +kernel)), by decide +kernel⟩
theorem zt_mX7_requireIndex : Cond.static mX7_requireIndex.1 ∈ zTb := zw514
theorem zw363 : Cond.static mX7_requireBetween.1 ∈ zTb := List.mem_filter.mpr ⟨List.mem_append_right _ (List.mem_of_getElem? (i := 363) (by decide +kernel)), by decide +kernel⟩
theorem zt_mX7_requireBetween : Cond.static mX7_requireBetween.1 ∈ zTb := zw363
theorem zw366 : Cond.static mX7_requireArgument.1 ∈ zTb := List.mem_filter.mpr ⟨List.mem_append_right _ (List.mem_of_getElem? (i := 366) (by decide +kernel)), by decide +kernel⟩
theorem zt_mX7_requireArgument : Cond.static mX7_requireArgument.1 ∈ zTb := zw366
theorem zw441 : Cond.static mX7_requireState.1 ∈ zTb := List.mem_filter.mpr ⟨List.mem_append_right _ (List.mem_of_getElem? (i := 441) (by decide +kernel)), by decide +kernel⟩
theorem zt_mX7_requireState : Cond.static mX7_requireState.1 ∈ zTb := zw441
theorem zw328 : Cond.static mX7_distanceOf.1 ∈ zTb := List.mem_filter.mpr ⟨List.mem_append_right _ (List.mem_of_getElem? (i := 328) (by decide +kernel)), by decide +kernel⟩
theorem zt_mX7_distanceOf : Cond.static mX7_distanceOf.1 ∈ zTb := zw328
theorem zw305 : Cond.static mX7_isIn.1 ∈ zTb := List.mem_filter.mpr ⟨List.mem_append_right _ (List.mem_of_getElem? (i := 305) (by decide +kernel)), by decide +kernel⟩
theorem zt_mX7_isIn : Cond.static mX7_isIn.1 ∈ zTb := zw305
theorem zw542 : Cond.static mX7_noteIndex.1 ∈ zTb := List.mem_filter.mpr ⟨List.mem_append_right _ (List.mem_of_getElem? (i := 542) (by decide +kernel)), by decide +kernel⟩
theorem zt_mX7_noteIndex : Cond.static mX7_noteIndex.1 ∈ zTb := zw542
theorem zw893 : Cond.instanceMethod mX8_init.1 ∈ zTb := List.mem_filter.mpr ⟨List.mem_append_right _ (List.mem_of_getElem? (i := 893) (by decide +kernel)), by decide +kernel⟩
theorem zt_mX8_init : Cond.instanceMethod mX8_init.1 ∈ zTb := zw893
theorem zw944 : Cond.instanceMethod mX8_thrown.1 ∈ zTb := List.mem_filter.mpr ⟨List.mem_append_right _ (List.mem_of_getElem? (i := 944) (by decide +kernel)), by decide +kernel⟩
theorem zw945 : Cond.selects mX8_thrown.1.cls mX8_thrown.1 mX8_thrown.1 ∈ zTb := List.mem_filter.mpr ⟨List.mem_append_right _ (List.mem_of_getElem? (i := 945) (by decide +kernel)), by decide +kernel⟩
theorem zt_mX8_thrown : Cond.instanceMethod mX8_thrown.1 ∈ zTb ∧ Cond.selects mX8_thrown.1.cls mX8_thrown.1 mX8_thrown.1 ∈ zTb := ⟨zw944, zw945⟩
theorem zw957 : Cond.instanceMethod mX8_refused.1 ∈ zTb := List.mem_filter.mpr ⟨List.mem_append_right _ (List.mem_of_getElem? (i := 957) (by decide +kernel)), by decide +kernel⟩
theorem zp15 : Cond.selects mX8_refused.1.cls mX8_refused.1 mX8_refused.1 ∈ zTb := List.mem_filter.mpr ⟨List.mem_append_left _ (List.mem_of_getElem? (i := 15) (by decide +kernel)), by decide +kernel⟩
theorem zt_mX8_refused : Cond.instanceMethod mX8_refused.1 ∈ zTb ∧ Cond.selects mX8_refused.1.cls mX8_refused.1 mX8_refused.1 ∈ zTb := ⟨zw957, zp15⟩
theorem zw953 : Cond.static mX8_in.1 ∈ zTb := List.mem_filter.mpr ⟨List.mem_append_right _ (List.mem_of_getElem? (i := 953) (by decide +kernel)), by decide +kernel⟩
theorem zt_mX8_in : Cond.static mX8_in.1 ∈ zTb := zw953
theorem zw998 : Cond.static mX8_copy.1 ∈ zTb := List.mem_filter.mpr ⟨List.mem_append_right _ (List.mem_of_getElem? (i := 998) (by decide +kernel)), by decide +kernel⟩
theorem zt_mX8_copy : Cond.static mX8_copy.1 ∈ zTb := zw998
theorem zw1213 : Cond.static mX8_tenTo.1 ∈ zTb := List.mem_filter.mpr ⟨List.mem_append_right _ (List.mem_of_getElem? (i := 1213) (by decide +kernel)), by decide +kernel⟩
theorem zt_mX8_tenTo : Cond.static mX8_tenTo.1 ∈ zTb := zw1213
theorem zw1070 : Cond.instanceMethod mX8_note.1 ∈ zTb := List.mem_filter.mpr ⟨List.mem_append_right _ (List.mem_of_getElem? (i := 1070) (by decide +kernel)), by decide +kernel⟩
theorem zp23 : Cond.selects mX8_note.1.cls mX8_note.1 mX8_note.1 ∈ zTb := List.mem_filter.mpr ⟨List.mem_append_left _ (List.mem_of_getElem? (i := 23) (by decide +kernel)), by decide +kernel⟩
theorem zt_mX8_note : Cond.instanceMethod mX8_note.1 ∈ zTb ∧ Cond.selects mX8_note.1.cls mX8_note.1 mX8_note.1 ∈ zTb := ⟨zw1070, zp23⟩
theorem zw1044 : Cond.static mX8_size.1 ∈ zTb := List.mem_filter.mpr ⟨List.mem_append_right _ (List.mem_of_getElem? (i := 1044) (by decide +kernel)), by decide +kernel⟩
theorem zt_mX8_size : Cond.static mX8_size.1 ∈ zTb := zw1044
theorem zw984 : Cond.static mX8_agentAt.1 ∈ zTb := List.mem_filter.mpr ⟨List.mem_append_right _ (List.mem_of_getElem? (i := 984) (by decide +kernel)), by decide +kernel⟩
theorem zt_mX8_agentAt : Cond.static mX8_agentAt.1 ∈ zTb := zw984
theorem zw991 : Cond.static mX8_taskAt.1 ∈ zTb := List.mem_filter.mpr ⟨List.mem_append_right _ (List.mem_of_getElem? (i := 991) (by decide +kernel)), by decide +kernel⟩
theorem zt_mX8_taskAt : Cond.static mX8_taskAt.1 ∈ zTb := zw991
theorem zw1032 : Cond.static mX8_noteAt.1 ∈ zTb := List.mem_filter.mpr ⟨List.mem_append_right _ (List.mem_of_getElem? (i := 1032) (by decide +kernel)), by decide +kernel⟩
theorem zt_mX8_noteAt : Cond.static mX8_noteAt.1 ∈ zTb := zw1032
theorem zw1023 : Cond.instanceMethod mX8_isAgent.1 ∈ zTb := List.mem_filter.mpr ⟨List.mem_append_right _ (List.mem_of_getElem? (i := 1023) (by decide +kernel)), by decide +kernel⟩
theorem zp21 : Cond.selects mX8_isAgent.1.cls mX8_isAgent.1 mX8_isAgent.1 ∈ zTb := List.mem_filter.mpr ⟨List.mem_append_left _ (List.mem_of_getElem? (i := 21) (by decide +kernel)), by decide +kernel⟩
theorem zt_mX8_isAgent : Cond.instanceMethod mX8_isAgent.1 ∈ zTb ∧ Cond.selects mX8_isAgent.1.cls mX8_isAgent.1 mX8_isAgent.1 ∈ zTb := ⟨zw1023, zp21⟩
theorem zw1052 : Cond.instanceMethod mX8_isTask.1 ∈ zTb := List.mem_filter.mpr ⟨List.mem_append_right _ (List.mem_of_getElem? (i := 1052) (by decide +kernel)), by decide +kernel⟩
theorem zp22 : Cond.selects mX8_isTask.1.cls mX8_isTask.1 mX8_isTask.1 ∈ zTb := List.mem_filter.mpr ⟨List.mem_append_left _ (List.mem_of_getElem? (i := 22) (by decide +kernel)), by decide +kernel⟩
theorem zt_mX8_isTask : Cond.instanceMethod mX8_isTask.1 ∈ zTb ∧ Cond.selects mX8_isTask.1.cls mX8_isTask.1 mX8_isTask.1 ∈ zTb := ⟨zw1052, zp22⟩
theorem zw1015 : Cond.static mX8_isOn.1 ∈ zTb := List.mem_filter.mpr ⟨List.mem_append_right _ (List.mem_of_getElem? (i := 1015) (by decide +kernel)), by decide +kernel⟩
theorem zt_mX8_isOn : Cond.static mX8_isOn.1 ∈ zTb := zw1015
theorem zw1009 : Cond.static mX8_isDone.1 ∈ zTb := List.mem_filter.mpr ⟨List.mem_append_right _ (List.mem_of_getElem? (i := 1009) (by decide +kernel)), by decide +kernel⟩
theorem zt_mX8_isDone : Cond.static mX8_isDone.1 ∈ zTb := zw1009
theorem zw1041 : Cond.static mX8_apart.1 ∈ zTb := List.mem_filter.mpr ⟨List.mem_append_right _ (List.mem_of_getElem? (i := 1041) (by decide +kernel)), by decide +kernel⟩
theorem zt_mX8_apart : Cond.static mX8_apart.1 ∈ zTb := zw1041
theorem zw1090 : Cond.static mX8_far.1 ∈ zTb := List.mem_filter.mpr ⟨List.mem_append_right _ (List.mem_of_getElem? (i := 1090) (by decide +kernel)), by decide +kernel⟩
theorem zt_mX8_far : Cond.static mX8_far.1 ∈ zTb := zw1090
theorem zw1038 : Cond.static mX8_hears.1 ∈ zTb := List.mem_filter.mpr ⟨List.mem_append_right _ (List.mem_of_getElem? (i := 1038) (by decide +kernel)), by decide +kernel⟩
theorem zt_mX8_hears : Cond.static mX8_hears.1 ∈ zTb := zw1038
theorem zw1035 : Cond.static mX8_isLive.1 ∈ zTb := List.mem_filter.mpr ⟨List.mem_append_right _ (List.mem_of_getElem? (i := 1035) (by decide +kernel)), by decide +kernel⟩
theorem zt_mX8_isLive : Cond.static mX8_isLive.1 ∈ zTb := zw1035
theorem zw1081 : Cond.static mX8_better.1 ∈ zTb := List.mem_filter.mpr ⟨List.mem_append_right _ (List.mem_of_getElem? (i := 1081) (by decide +kernel)), by decide +kernel⟩
theorem zt_mX8_better : Cond.static mX8_better.1 ∈ zTb := zw1081
theorem zw1084 : Cond.static mX8_lay.1 ∈ zTb := List.mem_filter.mpr ⟨List.mem_append_right _ (List.mem_of_getElem? (i := 1084) (by decide +kernel)), by decide +kernel⟩
theorem zt_mX8_lay : Cond.static mX8_lay.1 ∈ zTb := zw1084
theorem zw1029 : Cond.static mX8_isOwn.1 ∈ zTb := List.mem_filter.mpr ⟨List.mem_append_right _ (List.mem_of_getElem? (i := 1029) (by decide +kernel)), by decide +kernel⟩
theorem zt_mX8_isOwn : Cond.static mX8_isOwn.1 ∈ zTb := zw1029
theorem zw1026 : Cond.static mX8_ownTask.1 ∈ zTb := List.mem_filter.mpr ⟨List.mem_append_right _ (List.mem_of_getElem? (i := 1026) (by decide +kernel)), by decide +kernel⟩
theorem zt_mX8_ownTask : Cond.static mX8_ownTask.1 ∈ zTb := zw1026
theorem zw1078 : Cond.instanceMethod mX8_listen.1 ∈ zTb := List.mem_filter.mpr ⟨List.mem_append_right _ (List.mem_of_getElem? (i := 1078) (by decide +kernel)), by decide +kernel⟩
theorem zp25 : Cond.selects mX8_listen.1.cls mX8_listen.1 mX8_listen.1 ∈ zTb := List.mem_filter.mpr ⟨List.mem_append_left _ (List.mem_of_getElem? (i := 25) (by decide +kernel)), by decide +kernel⟩
theorem zt_mX8_listen : Cond.instanceMethod mX8_listen.1 ∈ zTb ∧ Cond.selects mX8_listen.1.cls mX8_listen.1 mX8_listen.1 ∈ zTb := ⟨zw1078, zp25⟩
theorem zw1087 : Cond.static mX8_claim.1 ∈ zTb := List.mem_filter.mpr ⟨List.mem_append_right _ (List.mem_of_getElem? (i := 1087) (by decide +kernel)), by decide +kernel⟩
theorem zt_mX8_claim : Cond.static mX8_claim.1 ∈ zTb := zw1087
theorem zw1093 : Cond.static mX8_work.1 ∈ zTb := List.mem_filter.mpr ⟨List.mem_append_right _ (List.mem_of_getElem? (i := 1093) (by decide +kernel)), by decide +kernel⟩
theorem zt_mX8_work : Cond.static mX8_work.1 ∈ zTb := zw1093
theorem zw1074 : Cond.instanceMethod mX8_stepOn.1 ∈ zTb := List.mem_filter.mpr ⟨List.mem_append_right _ (List.mem_of_getElem? (i := 1074) (by decide +kernel)), by decide +kernel⟩
theorem zp24 : Cond.selects mX8_stepOn.1.cls mX8_stepOn.1 mX8_stepOn.1 ∈ zTb := List.mem_filter.mpr ⟨List.mem_append_left _ (List.mem_of_getElem? (i := 24) (by decide +kernel)), by decide +kernel⟩
theorem zt_mX8_stepOn : Cond.instanceMethod mX8_stepOn.1 ∈ zTb ∧ Cond.selects mX8_stepOn.1.cls mX8_stepOn.1 mX8_stepOn.1 ∈ zTb := ⟨zw1074, zp24⟩
theorem zw1006 : Cond.static mX8_finished.1 ∈ zTb := List.mem_filter.mpr ⟨List.mem_append_right _ (List.mem_of_getElem? (i := 1006) (by decide +kernel)), by decide +kernel⟩
theorem zt_mX8_finished : Cond.static mX8_finished.1 ∈ zTb := zw1006
theorem zw1012 : Cond.static mX8_sumOf.1 ∈ zTb := List.mem_filter.mpr ⟨List.mem_append_right _ (List.mem_of_getElem? (i := 1012) (by decide +kernel)), by decide +kernel⟩
theorem zt_mX8_sumOf : Cond.static mX8_sumOf.1 ∈ zTb := zw1012
theorem zw1194 : Cond.static mX8_progress.1 ∈ zTb := List.mem_filter.mpr ⟨List.mem_append_right _ (List.mem_of_getElem? (i := 1194) (by decide +kernel)), by decide +kernel⟩
theorem zt_mX8_progress : Cond.static mX8_progress.1 ∈ zTb := zw1194
theorem zw948 : Cond.instanceMethod mX8_append.1 ∈ zTb := List.mem_filter.mpr ⟨List.mem_append_right _ (List.mem_of_getElem? (i := 948) (by decide +kernel)), by decide +kernel⟩
theorem zw949 : Cond.selects mX8_append.1.cls mX8_append.1 mX8_append.1 ∈ zTb := List.mem_filter.mpr ⟨List.mem_append_right _ (List.mem_of_getElem? (i := 949) (by decide +kernel)), by decide +kernel⟩
theorem zt_mX8_append : Cond.instanceMethod mX8_append.1 ∈ zTb ∧ Cond.selects mX8_append.1.cls mX8_append.1 mX8_append.1 ∈ zTb := ⟨zw948, zw949⟩
theorem zw960 : Cond.instanceMethod mX8_clearText.1 ∈ zTb := List.mem_filter.mpr ⟨List.mem_append_right _ (List.mem_of_getElem? (i := 960) (by decide +kernel)), by decide +kernel⟩
theorem zw961 : Cond.selects mX8_clearText.1.cls mX8_clearText.1 mX8_clearText.1 ∈ zTb := List.mem_filter.mpr ⟨List.mem_append_right _ (List.mem_of_getElem? (i := 961) (by decide +kernel)), by decide +kernel⟩
theorem zt_mX8_clearText : Cond.instanceMethod mX8_clearText.1 ∈ zTb ∧ Cond.selects mX8_clearText.1.cls mX8_clearText.1 mX8_clearText.1 ∈ zTb := ⟨zw960, zw961⟩
theorem zw977 : Cond.instanceMethod mX8_digit.1 ∈ zTb := List.mem_filter.mpr ⟨List.mem_append_right _ (List.mem_of_getElem? (i := 977) (by decide +kernel)), by decide +kernel⟩
theorem zp18 : Cond.selects mX8_digit.1.cls mX8_digit.1 mX8_digit.1 ∈ zTb := List.mem_filter.mpr ⟨List.mem_append_left _ (List.mem_of_getElem? (i := 18) (by decide +kernel)), by decide +kernel⟩
theorem zt_mX8_digit : Cond.instanceMethod mX8_digit.1 ∈ zTb ∧ Cond.selects mX8_digit.1.cls mX8_digit.1 mX8_digit.1 ∈ zTb := ⟨zw977, zp18⟩
theorem zw973 : Cond.instanceMethod mX8_two.1 ∈ zTb := List.mem_filter.mpr ⟨List.mem_append_right _ (List.mem_of_getElem? (i := 973) (by decide +kernel)), by decide +kernel⟩
theorem zp17 : Cond.selects mX8_two.1.cls mX8_two.1 mX8_two.1 ∈ zTb := List.mem_filter.mpr ⟨List.mem_append_left _ (List.mem_of_getElem? (i := 17) (by decide +kernel)), by decide +kernel⟩
theorem zt_mX8_two : Cond.instanceMethod mX8_two.1 ∈ zTb ∧ Cond.selects mX8_two.1.cls mX8_two.1 mX8_two.1 ∈ zTb := ⟨zw973, zp17⟩
theorem zw981 : Cond.instanceMethod mX8_readAgent.1 ∈ zTb := List.mem_filter.mpr ⟨List.mem_append_right _ (List.mem_of_getElem? (i := 981) (by decide +kernel)), by decide +kernel⟩
theorem zp19 : Cond.selects mX8_readAgent.1.cls mX8_readAgent.1 mX8_readAgent.1 ∈ zTb := List.mem_filter.mpr ⟨List.mem_append_left _ (List.mem_of_getElem? (i := 19) (by decide +kernel)), by decide +kernel⟩
theorem zt_mX8_readAgent : Cond.instanceMethod mX8_readAgent.1 ∈ zTb ∧ Cond.selects mX8_readAgent.1.cls mX8_readAgent.1 mX8_readAgent.1 ∈ zTb := ⟨zw981, zp19⟩
theorem zw988 : Cond.instanceMethod mX8_readTask.1 ∈ zTb := List.mem_filter.mpr ⟨List.mem_append_right _ (List.mem_of_getElem? (i := 988) (by decide +kernel)), by decide +kernel⟩
theorem zp20 : Cond.selects mX8_readTask.1.cls mX8_readTask.1 mX8_readTask.1 ∈ zTb := List.mem_filter.mpr ⟨List.mem_append_left _ (List.mem_of_getElem? (i := 20) (by decide +kernel)), by decide +kernel⟩
theorem zt_mX8_readTask : Cond.instanceMethod mX8_readTask.1 ∈ zTb ∧ Cond.selects mX8_readTask.1.cls mX8_readTask.1 mX8_readTask.1 ∈ zTb := ⟨zw988, zp20⟩
theorem zw969 : Cond.instanceMethod mX8_readText.1 ∈ zTb := List.mem_filter.mpr ⟨List.mem_append_right _ (List.mem_of_getElem? (i := 969) (by decide +kernel)), by decide +kernel⟩
theorem zp16 : Cond.selects mX8_readText.1.cls mX8_readText.1 mX8_readText.1 ∈ zTb := List.mem_filter.mpr ⟨List.mem_append_left _ (List.mem_of_getElem? (i := 16) (by decide +kernel)), by decide +kernel⟩
theorem zt_mX8_readText : Cond.instanceMethod mX8_readText.1 ∈ zTb ∧ Cond.selects mX8_readText.1.cls mX8_readText.1 mX8_readText.1 ∈ zTb := ⟨zw969, zp16⟩
theorem zw964 : Cond.instanceMethod mX8_errorPosition.1 ∈ zTb := List.mem_filter.mpr ⟨List.mem_append_right _ (List.mem_of_getElem? (i := 964) (by decide +kernel)), by decide +kernel⟩
theorem zw965 : Cond.selects mX8_errorPosition.1.cls mX8_errorPosition.1 mX8_errorPosition.1 ∈ zTb := List.mem_filter.mpr ⟨List.mem_append_right _ (List.mem_of_getElem? (i := 965) (by decide +kernel)), by decide +kernel⟩
theorem zt_mX8_errorPosition : Cond.instanceMethod mX8_errorPosition.1 ∈ zTb ∧ Cond.selects mX8_errorPosition.1.cls mX8_errorPosition.1 mX8_errorPosition.1 ∈ zTb := ⟨zw964, zw965⟩
theorem zw994 : Cond.instanceMethod mX8_load.1 ∈ zTb := List.mem_filter.mpr ⟨List.mem_append_right _ (List.mem_of_getElem? (i := 994) (by decide +kernel)), by decide +kernel⟩
theorem zw995 : Cond.selects mX8_load.1.cls mX8_load.1 mX8_load.1 ∈ zTb := List.mem_filter.mpr ⟨List.mem_append_right _ (List.mem_of_getElem? (i := 995) (by decide +kernel)), by decide +kernel⟩
theorem zt_mX8_load : Cond.instanceMethod mX8_load.1 ∈ zTb ∧ Cond.selects mX8_load.1.cls mX8_load.1 mX8_load.1 ∈ zTb := ⟨zw994, zw995⟩
theorem zw1001 : Cond.instanceMethod mX8_about.1 ∈ zTb := List.mem_filter.mpr ⟨List.mem_append_right _ (List.mem_of_getElem? (i := 1001) (by decide +kernel)), by decide +kernel⟩
theorem zw1002 : Cond.selects mX8_about.1.cls mX8_about.1 mX8_about.1 ∈ zTb := List.mem_filter.mpr ⟨List.mem_append_right _ (List.mem_of_getElem? (i := 1002) (by decide +kernel)), by decide +kernel⟩
theorem zt_mX8_about : Cond.instanceMethod mX8_about.1 ∈ zTb ∧ Cond.selects mX8_about.1.cls mX8_about.1 mX8_about.1 ∈ zTb := ⟨zw1001, zw1002⟩
theorem zw1018 : Cond.instanceMethod mX8_agent.1 ∈ zTb := List.mem_filter.mpr ⟨List.mem_append_right _ (List.mem_of_getElem? (i := 1018) (by decide +kernel)), by decide +kernel⟩
theorem zw1019 : Cond.selects mX8_agent.1.cls mX8_agent.1 mX8_agent.1 ∈ zTb := List.mem_filter.mpr ⟨List.mem_append_right _ (List.mem_of_getElem? (i := 1019) (by decide +kernel)), by decide +kernel⟩
theorem zt_mX8_agent : Cond.instanceMethod mX8_agent.1 ∈ zTb ∧ Cond.selects mX8_agent.1.cls mX8_agent.1 mX8_agent.1 ∈ zTb := ⟨zw1018, zw1019⟩
theorem zw1056 : Cond.static mX8_claimers.1 ∈ zTb := List.mem_filter.mpr ⟨List.mem_append_right _ (List.mem_of_getElem? (i := 1056) (by decide +kernel)), by decide +kernel⟩
theorem zt_mX8_claimers : Cond.static mX8_claimers.1 ∈ zTb := zw1056
theorem zw1047 : Cond.instanceMethod mX8_task.1 ∈ zTb := List.mem_filter.mpr ⟨List.mem_append_right _ (List.mem_of_getElem? (i := 1047) (by decide +kernel)), by decide +kernel⟩
theorem zw1048 : Cond.selects mX8_task.1.cls mX8_task.1 mX8_task.1 ∈ zTb := List.mem_filter.mpr ⟨List.mem_append_right _ (List.mem_of_getElem? (i := 1048) (by decide +kernel)), by decide +kernel⟩
theorem zt_mX8_task : Cond.instanceMethod mX8_task.1 ∈ zTb ∧ Cond.selects mX8_task.1.cls mX8_task.1 mX8_task.1 ∈ zTb := ⟨zw1047, zw1048⟩
theorem zw1059 : Cond.instanceMethod mX8_note_.1 ∈ zTb := List.mem_filter.mpr ⟨List.mem_append_right _ (List.mem_of_getElem? (i := 1059) (by decide +kernel)), by decide +kernel⟩
theorem zw1060 : Cond.selects mX8_note_.1.cls mX8_note_.1 mX8_note_.1 ∈ zTb := List.mem_filter.mpr ⟨List.mem_append_right _ (List.mem_of_getElem? (i := 1060) (by decide +kernel)), by decide +kernel⟩
theorem zt_mX8_note_ : Cond.instanceMethod mX8_note_.1 ∈ zTb ∧ Cond.selects mX8_note_.1.cls mX8_note_.1 mX8_note_.1 ∈ zTb := ⟨zw1059, zw1060⟩
theorem zw1064 : Cond.instanceMethod mX8_step.1 ∈ zTb := List.mem_filter.mpr ⟨List.mem_append_right _ (List.mem_of_getElem? (i := 1064) (by decide +kernel)), by decide +kernel⟩
theorem zw1065 : Cond.selects mX8_step.1.cls mX8_step.1 mX8_step.1 ∈ zTb := List.mem_filter.mpr ⟨List.mem_append_right _ (List.mem_of_getElem? (i := 1065) (by decide +kernel)), by decide +kernel⟩
theorem zt_mX8_step : Cond.instanceMethod mX8_step.1 ∈ zTb ∧ Cond.selects mX8_step.1.cls mX8_step.1 mX8_step.1 ∈ zTb := ⟨zw1064, zw1065⟩
theorem zw1096 : Cond.instanceMethod mX8_setRange.1 ∈ zTb := List.mem_filter.mpr ⟨List.mem_append_right _ (List.mem_of_getElem? (i := 1096) (by decide +kernel)), by decide +kernel⟩
theorem zw1097 : Cond.selects mX8_setRange.1.cls mX8_setRange.1 mX8_setRange.1 ∈ zTb := List.mem_filter.mpr ⟨List.mem_append_right _ (List.mem_of_getElem? (i := 1097) (by decide +kernel)), by decide +kernel⟩
theorem zt_mX8_setRange : Cond.instanceMethod mX8_setRange.1 ∈ zTb ∧ Cond.selects mX8_setRange.1.cls mX8_setRange.1 mX8_setRange.1 ∈ zTb := ⟨zw1096, zw1097⟩
theorem zw1105 : Cond.static mX8_isPlace.1 ∈ zTb := List.mem_filter.mpr ⟨List.mem_append_right _ (List.mem_of_getElem? (i := 1105) (by decide +kernel)), by decide +kernel⟩
theorem zt_mX8_isPlace : Cond.static mX8_isPlace.1 ∈ zTb := zw1105
theorem zw1101 : Cond.instanceMethod mX8_put.1 ∈ zTb := List.mem_filter.mpr ⟨List.mem_append_right _ (List.mem_of_getElem? (i := 1101) (by decide +kernel)), by decide +kernel⟩
theorem zw1102 : Cond.selects mX8_put.1.cls mX8_put.1 mX8_put.1 ∈ zTb := List.mem_filter.mpr ⟨List.mem_append_right _ (List.mem_of_getElem? (i := 1102) (by decide +kernel)), by decide +kernel⟩
theorem zt_mX8_put : Cond.instanceMethod mX8_put.1 ∈ zTb ∧ Cond.selects mX8_put.1.cls mX8_put.1 mX8_put.1 ∈ zTb := ⟨zw1101, zw1102⟩
theorem zw1113 : Cond.static mX8_countOn.1 ∈ zTb := List.mem_filter.mpr ⟨List.mem_append_right _ (List.mem_of_getElem? (i := 1113) (by decide +kernel)), by decide +kernel⟩
theorem zt_mX8_countOn : Cond.static mX8_countOn.1 ∈ zTb := zw1113
theorem zw1109 : Cond.instanceMethod mX8_toggle.1 ∈ zTb := List.mem_filter.mpr ⟨List.mem_append_right _ (List.mem_of_getElem? (i := 1109) (by decide +kernel)), by decide +kernel⟩
theorem zw1110 : Cond.selects mX8_toggle.1.cls mX8_toggle.1 mX8_toggle.1 ∈ zTb := List.mem_filter.mpr ⟨List.mem_append_right _ (List.mem_of_getElem? (i := 1110) (by decide +kernel)), by decide +kernel⟩
theorem zt_mX8_toggle : Cond.instanceMethod mX8_toggle.1 ∈ zTb ∧ Cond.selects mX8_toggle.1.cls mX8_toggle.1 mX8_toggle.1 ∈ zTb := ⟨zw1109, zw1110⟩
theorem zw1120 : Cond.static mX8_canHandOver.1 ∈ zTb := List.mem_filter.mpr ⟨List.mem_append_right _ (List.mem_of_getElem? (i := 1120) (by decide +kernel)), by decide +kernel⟩
theorem zt_mX8_canHandOver : Cond.static mX8_canHandOver.1 ∈ zTb := zw1120
theorem zw1123 : Cond.static mX8_handOn.1 ∈ zTb := List.mem_filter.mpr ⟨List.mem_append_right _ (List.mem_of_getElem? (i := 1123) (by decide +kernel)), by decide +kernel⟩
theorem zt_mX8_handOn : Cond.static mX8_handOn.1 ∈ zTb := zw1123
theorem zw1116 : Cond.instanceMethod mX8_handOver.1 ∈ zTb := List.mem_filter.mpr ⟨List.mem_append_right _ (List.mem_of_getElem? (i := 1116) (by decide +kernel)), by decide +kernel⟩
theorem zw1117 : Cond.selects mX8_handOver.1.cls mX8_handOver.1 mX8_handOver.1 ∈ zTb := List.mem_filter.mpr ⟨List.mem_append_right _ (List.mem_of_getElem? (i := 1117) (by decide +kernel)), by decide +kernel⟩
theorem zt_mX8_handOver : Cond.instanceMethod mX8_handOver.1 ∈ zTb ∧ Cond.selects mX8_handOver.1.cls mX8_handOver.1 mX8_handOver.1 ∈ zTb := ⟨zw1116, zw1117⟩
theorem zw1130 : Cond.static mX8_dropOn.1 ∈ zTb := List.mem_filter.mpr ⟨List.mem_append_right _ (List.mem_of_getElem? (i := 1130) (by decide +kernel)), by decide +kernel⟩
theorem zt_mX8_dropOn : Cond.static mX8_dropOn.1 ∈ zTb := zw1130
theorem zw1126 : Cond.instanceMethod mX8_drop.1 ∈ zTb := List.mem_filter.mpr ⟨List.mem_append_right _ (List.mem_of_getElem? (i := 1126) (by decide +kernel)), by decide +kernel⟩
theorem zw1127 : Cond.selects mX8_drop.1.cls mX8_drop.1 mX8_drop.1 ∈ zTb := List.mem_filter.mpr ⟨List.mem_append_right _ (List.mem_of_getElem? (i := 1127) (by decide +kernel)), by decide +kernel⟩
theorem zt_mX8_drop : Cond.instanceMethod mX8_drop.1 ∈ zTb ∧ Cond.selects mX8_drop.1.cls mX8_drop.1 mX8_drop.1 ∈ zTb := ⟨zw1126, zw1127⟩
theorem zw1133 : Cond.instanceMethod mX8_setLifetime.1 ∈ zTb := List.mem_filter.mpr ⟨List.mem_append_right _ (List.mem_of_getElem? (i := 1133) (by decide +kernel)), by decide +kernel⟩
theorem zw1134 : Cond.selects mX8_setLifetime.1.cls mX8_setLifetime.1 mX8_setLifetime.1 ∈ zTb := List.mem_filter.mpr ⟨List.mem_append_right _ (List.mem_of_getElem? (i := 1134) (by decide +kernel)), by decide +kernel⟩
theorem zt_mX8_setLifetime : Cond.instanceMethod mX8_setLifetime.1 ∈ zTb ∧ Cond.selects mX8_setLifetime.1.cls mX8_setLifetime.1 mX8_setLifetime.1 ∈ zTb := ⟨zw1133, zw1134⟩
theorem zw1138 : Cond.instanceMethod mX8_undo.1 ∈ zTb := List.mem_filter.mpr ⟨List.mem_append_right _ (List.mem_of_getElem? (i := 1138) (by decide +kernel)), by decide +kernel⟩
theorem zw1139 : Cond.selects mX8_undo.1.cls mX8_undo.1 mX8_undo.1 ∈ zTb := List.mem_filter.mpr ⟨List.mem_append_right _ (List.mem_of_getElem? (i := 1139) (by decide +kernel)), by decide +kernel⟩
theorem zt_mX8_undo : Cond.instanceMethod mX8_undo.1 ∈ zTb ∧ Cond.selects mX8_undo.1.cls mX8_undo.1 mX8_undo.1 ∈ zTb := ⟨zw1138, zw1139⟩
theorem zw1147 : Cond.instanceMethod mX8_layWays.1 ∈ zTb := List.mem_filter.mpr ⟨List.mem_append_right _ (List.mem_of_getElem? (i := 1147) (by decide +kernel)), by decide +kernel⟩
theorem zp26 : Cond.selects mX8_layWays.1.cls mX8_layWays.1 mX8_layWays.1 ∈ zTb := List.mem_filter.mpr ⟨List.mem_append_left _ (List.mem_of_getElem? (i := 26) (by decide +kernel)), by decide +kernel⟩
theorem zt_mX8_layWays : Cond.instanceMethod mX8_layWays.1 ∈ zTb ∧ Cond.selects mX8_layWays.1.cls mX8_layWays.1 mX8_layWays.1 ∈ zTb := ⟨zw1147, zp26⟩
theorem zw1142 : Cond.instanceMethod mX8_hops.1 ∈ zTb := List.mem_filter.mpr ⟨List.mem_append_right _ (List.mem_of_getElem? (i := 1142) (by decide +kernel)), by decide +kernel⟩
theorem zw1143 : Cond.selects mX8_hops.1.cls mX8_hops.1 mX8_hops.1 ∈ zTb := List.mem_filter.mpr ⟨List.mem_append_right _ (List.mem_of_getElem? (i := 1143) (by decide +kernel)), by decide +kernel⟩
theorem zt_mX8_hops : Cond.instanceMethod mX8_hops.1 ∈ zTb ∧ Cond.selects mX8_hops.1.cls mX8_hops.1 mX8_hops.1 ∈ zTb := ⟨zw1142, zw1143⟩
theorem zw1155 : Cond.instanceMethod mX8_groupsOf.1 ∈ zTb := List.mem_filter.mpr ⟨List.mem_append_right _ (List.mem_of_getElem? (i := 1155) (by decide +kernel)), by decide +kernel⟩
theorem zp27 : Cond.selects mX8_groupsOf.1.cls mX8_groupsOf.1 mX8_groupsOf.1 ∈ zTb := List.mem_filter.mpr ⟨List.mem_append_left _ (List.mem_of_getElem? (i := 27) (by decide +kernel)), by decide +kernel⟩
theorem zt_mX8_groupsOf : Cond.instanceMethod mX8_groupsOf.1 ∈ zTb ∧ Cond.selects mX8_groupsOf.1.cls mX8_groupsOf.1 mX8_groupsOf.1 ∈ zTb := ⟨zw1155, zp27⟩
theorem zw1150 : Cond.instanceMethod mX8_groups.1 ∈ zTb := List.mem_filter.mpr ⟨List.mem_append_right _ (List.mem_of_getElem? (i := 1150) (by decide +kernel)), by decide +kernel⟩
theorem zw1151 : Cond.selects mX8_groups.1.cls mX8_groups.1 mX8_groups.1 ∈ zTb := List.mem_filter.mpr ⟨List.mem_append_right _ (List.mem_of_getElem? (i := 1151) (by decide +kernel)), by decide +kernel⟩
theorem zt_mX8_groups : Cond.instanceMethod mX8_groups.1 ∈ zTb ∧ Cond.selects mX8_groups.1.cls mX8_groups.1 mX8_groups.1 ∈ zTb := ⟨zw1150, zw1151⟩
theorem zw1163 : Cond.instanceMethod mX8_setRanges.1 ∈ zTb := List.mem_filter.mpr ⟨List.mem_append_right _ (List.mem_of_getElem? (i := 1163) (by decide +kernel)), by decide +kernel⟩
theorem zp28 : Cond.selects mX8_setRanges.1.cls mX8_setRanges.1 mX8_setRanges.1 ∈ zTb := List.mem_filter.mpr ⟨List.mem_append_left _ (List.mem_of_getElem? (i := 28) (by decide +kernel)), by decide +kernel⟩
theorem zt_mX8_setRanges : Cond.instanceMethod mX8_setRanges.1 ∈ zTb ∧ Cond.selects mX8_setRanges.1.cls mX8_setRanges.1 mX8_setRanges.1 ∈ zTb := ⟨zw1163, zp28⟩
theorem zw1158 : Cond.instanceMethod mX8_rangeNeeded.1 ∈ zTb := List.mem_filter.mpr ⟨List.mem_append_right _ (List.mem_of_getElem? (i := 1158) (by decide +kernel)), by decide +kernel⟩
theorem zw1159 : Cond.selects mX8_rangeNeeded.1.cls mX8_rangeNeeded.1 mX8_rangeNeeded.1 ∈ zTb := List.mem_filter.mpr ⟨List.mem_append_right _ (List.mem_of_getElem? (i := 1159) (by decide +kernel)), by decide +kernel⟩
theorem zt_mX8_rangeNeeded : Cond.instanceMethod mX8_rangeNeeded.1 ∈ zTb ∧ Cond.selects mX8_rangeNeeded.1.cls mX8_rangeNeeded.1 mX8_rangeNeeded.1 ∈ zTb := ⟨zw1158, zw1159⟩
theorem zw1171 : Cond.static mX8_doubles.1 ∈ zTb := List.mem_filter.mpr ⟨List.mem_append_right _ (List.mem_of_getElem? (i := 1171) (by decide +kernel)), by decide +kernel⟩
theorem zt_mX8_doubles : Cond.static mX8_doubles.1 ∈ zTb := zw1171
theorem zw1166 : Cond.instanceMethod mX8_conflicts.1 ∈ zTb := List.mem_filter.mpr ⟨List.mem_append_right _ (List.mem_of_getElem? (i := 1166) (by decide +kernel)), by decide +kernel⟩
theorem zw1167 : Cond.selects mX8_conflicts.1.cls mX8_conflicts.1 mX8_conflicts.1 ∈ zTb := List.mem_filter.mpr ⟨List.mem_append_right _ (List.mem_of_getElem? (i := 1167) (by decide +kernel)), by decide +kernel⟩
theorem zt_mX8_conflicts : Cond.instanceMethod mX8_conflicts.1 ∈ zTb ∧ Cond.selects mX8_conflicts.1.cls mX8_conflicts.1 mX8_conflicts.1 ∈ zTb := ⟨zw1166, zw1167⟩
theorem zw1174 : Cond.instanceMethod mX8_finishedAfter.1 ∈ zTb := List.mem_filter.mpr ⟨List.mem_append_right _ (List.mem_of_getElem? (i := 1174) (by decide +kernel)), by decide +kernel⟩
theorem zw1175 : Cond.selects mX8_finishedAfter.1.cls mX8_finishedAfter.1 mX8_finishedAfter.1 ∈ zTb := List.mem_filter.mpr ⟨List.mem_append_right _ (List.mem_of_getElem? (i := 1175) (by decide +kernel)), by decide +kernel⟩
theorem zt_mX8_finishedAfter : Cond.instanceMethod mX8_finishedAfter.1 ∈ zTb ∧ Cond.selects mX8_finishedAfter.1.cls mX8_finishedAfter.1 mX8_finishedAfter.1 ∈ zTb := ⟨zw1174, zw1175⟩
theorem zw1183 : Cond.static mX8_isKnown.1 ∈ zTb := List.mem_filter.mpr ⟨List.mem_append_right _ (List.mem_of_getElem? (i := 1183) (by decide +kernel)), by decide +kernel⟩
theorem zt_mX8_isKnown : Cond.static mX8_isKnown.1 ∈ zTb := zw1183
theorem zw1179 : Cond.instanceMethod mX8_knownAfter.1 ∈ zTb := List.mem_filter.mpr ⟨List.mem_append_right _ (List.mem_of_getElem? (i := 1179) (by decide +kernel)), by decide +kernel⟩
theorem zw1180 : Cond.selects mX8_knownAfter.1.cls mX8_knownAfter.1 mX8_knownAfter.1 ∈ zTb := List.mem_filter.mpr ⟨List.mem_append_right _ (List.mem_of_getElem? (i := 1180) (by decide +kernel)), by decide +kernel⟩
theorem zt_mX8_knownAfter : Cond.instanceMethod mX8_knownAfter.1 ∈ zTb ∧ Cond.selects mX8_knownAfter.1.cls mX8_knownAfter.1 mX8_knownAfter.1 ∈ zTb := ⟨zw1179, zw1180⟩
theorem zw1186 : Cond.instanceMethod mX8_wastedIf.1 ∈ zTb := List.mem_filter.mpr ⟨List.mem_append_right _ (List.mem_of_getElem? (i := 1186) (by decide +kernel)), by decide +kernel⟩
theorem zw1187 : Cond.selects mX8_wastedIf.1.cls mX8_wastedIf.1 mX8_wastedIf.1 ∈ zTb := List.mem_filter.mpr ⟨List.mem_append_right _ (List.mem_of_getElem? (i := 1187) (by decide +kernel)), by decide +kernel⟩
theorem zt_mX8_wastedIf : Cond.instanceMethod mX8_wastedIf.1 ∈ zTb ∧ Cond.selects mX8_wastedIf.1.cls mX8_wastedIf.1 mX8_wastedIf.1 ∈ zTb := ⟨zw1186, zw1187⟩
theorem zw1190 : Cond.instanceMethod mX8_worstLoss.1 ∈ zTb := List.mem_filter.mpr ⟨List.mem_append_right _ (List.mem_of_getElem? (i := 1190) (by decide +kernel)), by decide +kernel⟩
theorem zw1191 : Cond.selects mX8_worstLoss.1.cls mX8_worstLoss.1 mX8_worstLoss.1 ∈ zTb := List.mem_filter.mpr ⟨List.mem_append_right _ (List.mem_of_getElem? (i := 1191) (by decide +kernel)), by decide +kernel⟩
theorem zt_mX8_worstLoss : Cond.instanceMethod mX8_worstLoss.1 ∈ zTb ∧ Cond.selects mX8_worstLoss.1.cls mX8_worstLoss.1 mX8_worstLoss.1 ∈ zTb := ⟨zw1190, zw1191⟩
theorem zw1202 : Cond.instanceMethod mX8_share.1 ∈ zTb := List.mem_filter.mpr ⟨List.mem_append_right _ (List.mem_of_getElem? (i := 1202) (by decide +kernel)), by decide +kernel⟩
theorem zp29 : Cond.selects mX8_share.1.cls mX8_share.1 mX8_share.1 ∈ zTb := List.mem_filter.mpr ⟨List.mem_append_left _ (List.mem_of_getElem? (i := 29) (by decide +kernel)), by decide +kernel⟩
theorem zt_mX8_share : Cond.instanceMethod mX8_share.1 ∈ zTb ∧ Cond.selects mX8_share.1.cls mX8_share.1 mX8_share.1 ∈ zTb := ⟨zw1202, zp29⟩
theorem zw1206 : Cond.instanceMethod mX8_canGet.1 ∈ zTb := List.mem_filter.mpr ⟨List.mem_append_right _ (List.mem_of_getElem? (i := 1206) (by decide +kernel)), by decide +kernel⟩
theorem zp30 : Cond.selects mX8_canGet.1.cls mX8_canGet.1 mX8_canGet.1 ∈ zTb := List.mem_filter.mpr ⟨List.mem_append_left _ (List.mem_of_getElem? (i := 30) (by decide +kernel)), by decide +kernel⟩
theorem zt_mX8_canGet : Cond.instanceMethod mX8_canGet.1 ∈ zTb ∧ Cond.selects mX8_canGet.1.cls mX8_canGet.1 mX8_canGet.1 ∈ zTb := ⟨zw1206, zp30⟩
theorem zw1197 : Cond.instanceMethod mX8_bestShare.1 ∈ zTb := List.mem_filter.mpr ⟨List.mem_append_right _ (List.mem_of_getElem? (i := 1197) (by decide +kernel)), by decide +kernel⟩
theorem zw1198 : Cond.selects mX8_bestShare.1.cls mX8_bestShare.1 mX8_bestShare.1 ∈ zTb := List.mem_filter.mpr ⟨List.mem_append_right _ (List.mem_of_getElem? (i := 1198) (by decide +kernel)), by decide +kernel⟩
theorem zt_mX8_bestShare : Cond.instanceMethod mX8_bestShare.1 ∈ zTb ∧ Cond.selects mX8_bestShare.1.cls mX8_bestShare.1 mX8_bestShare.1 ∈ zTb := ⟨zw1197, zw1198⟩
theorem zw1219 : Cond.instanceMethod mX8_command.1 ∈ zTb := List.mem_filter.mpr ⟨List.mem_append_right _ (List.mem_of_getElem? (i := 1219) (by decide +kernel)), by decide +kernel⟩
theorem zp31 : Cond.selects mX8_command.1.cls mX8_command.1 mX8_command.1 ∈ zTb := List.mem_filter.mpr ⟨List.mem_append_left _ (List.mem_of_getElem? (i := 31) (by decide +kernel)), by decide +kernel⟩
theorem zt_mX8_command : Cond.instanceMethod mX8_command.1 ∈ zTb ∧ Cond.selects mX8_command.1.cls mX8_command.1 mX8_command.1 ∈ zTb := ⟨zw1219, zp31⟩
theorem zw1209 : Cond.instanceMethod mX8_runScript.1 ∈ zTb := List.mem_filter.mpr ⟨List.mem_append_right _ (List.mem_of_getElem? (i := 1209) (by decide +kernel)), by decide +kernel⟩
theorem zw1210 : Cond.selects mX8_runScript.1.cls mX8_runScript.1 mX8_runScript.1 ∈ zTb := List.mem_filter.mpr ⟨List.mem_append_right _ (List.mem_of_getElem? (i := 1210) (by decide +kernel)), by decide +kernel⟩
theorem zt_mX8_runScript : Cond.instanceMethod mX8_runScript.1 ∈ zTb ∧ Cond.selects mX8_runScript.1.cls mX8_runScript.1 mX8_runScript.1 ∈ zTb := ⟨zw1209, zw1210⟩
theorem zw1222 : Cond.instanceMethod mX8_simulate.1 ∈ zTb := List.mem_filter.mpr ⟨List.mem_append_right _ (List.mem_of_getElem? (i := 1222) (by decide +kernel)), by decide +kernel⟩
theorem zw1223 : Cond.selects mX8_simulate.1.cls mX8_simulate.1 mX8_simulate.1 ∈ zTb := List.mem_filter.mpr ⟨List.mem_append_right _ (List.mem_of_getElem? (i := 1223) (by decide +kernel)), by decide +kernel⟩
theorem zt_mX8_simulate : Cond.instanceMethod mX8_simulate.1 ∈ zTb ∧ Cond.selects mX8_simulate.1.cls mX8_simulate.1 mX8_simulate.1 ∈ zTb := ⟨zw1222, zw1223⟩
theorem zw1229 : Cond.instanceMethod mX8_save.1 ∈ zTb := List.mem_filter.mpr ⟨List.mem_append_right _ (List.mem_of_getElem? (i := 1229) (by decide +kernel)), by decide +kernel⟩
theorem zw1230 : Cond.selects mX8_save.1.cls mX8_save.1 mX8_save.1 ∈ zTb := List.mem_filter.mpr ⟨List.mem_append_right _ (List.mem_of_getElem? (i := 1230) (by decide +kernel)), by decide +kernel⟩
theorem zt_mX8_save : Cond.instanceMethod mX8_save.1 ∈ zTb ∧ Cond.selects mX8_save.1.cls mX8_save.1 mX8_save.1 ∈ zTb := ⟨zw1229, zw1230⟩
theorem zw1233 : Cond.instanceMethod mX8_restore.1 ∈ zTb := List.mem_filter.mpr ⟨List.mem_append_right _ (List.mem_of_getElem? (i := 1233) (by decide +kernel)), by decide +kernel⟩
theorem zw1234 : Cond.selects mX8_restore.1.cls mX8_restore.1 mX8_restore.1 ∈ zTb := List.mem_filter.mpr ⟨List.mem_append_right _ (List.mem_of_getElem? (i := 1234) (by decide +kernel)), by decide +kernel⟩
theorem zt_mX8_restore : Cond.instanceMethod mX8_restore.1 ∈ zTb ∧ Cond.selects mX8_restore.1.cls mX8_restore.1 mX8_restore.1 ∈ zTb := ⟨zw1233, zw1234⟩
theorem zw682 : Cond.static mJ6_bitCount_0f7a4.1 ∈ zTb := List.mem_filter.mpr ⟨List.mem_append_right _ (List.mem_of_getElem? (i := 682) (by decide +kernel)), by decide +kernel⟩
theorem zt_mJ6_bitCount_0f7a4 : Cond.static mJ6_bitCount_0f7a4.1 ∈ zTb := zw682
theorem zw829 : Cond.static mJ9_max_7cf53.1 ∈ zTb := List.mem_filter.mpr ⟨List.mem_append_right _ (List.mem_of_getElem? (i := 829) (by decide +kernel)), by decide +kernel⟩
theorem zt_mJ9_max_7cf53 : Cond.static mJ9_max_7cf53.1 ∈ zTb := zw829
theorem zw331 : Cond.static mJ9_min_7cf53.1 ∈ zTb := List.mem_filter.mpr ⟨List.mem_append_right _ (List.mem_of_getElem? (i := 331) (by decide +kernel)), by decide +kernel⟩
theorem zt_mJ9_min_7cf53 : Cond.static mJ9_min_7cf53.1 ∈ zTb := zw331
theorem zw354 : Cond.static mL_append.1 ∈ zTb := List.mem_filter.mpr ⟨List.mem_append_right _ (List.mem_of_getElem? (i := 354) (by decide +kernel)), by decide +kernel⟩
theorem zt_mL_append : Cond.static mL_append.1 ∈ zTb := zw354
theorem zw465 : Cond.static mL_load.1 ∈ zTb := List.mem_filter.mpr ⟨List.mem_append_right _ (List.mem_of_getElem? (i := 465) (by decide +kernel)), by decide +kernel⟩
theorem zt_mL_load : Cond.static mL_load.1 ∈ zTb := zw465
theorem zw476 : Cond.static mL_about.1 ∈ zTb := List.mem_filter.mpr ⟨List.mem_append_right _ (List.mem_of_getElem? (i := 476) (by decide +kernel)), by decide +kernel⟩
theorem zt_mL_about : Cond.static mL_about.1 ∈ zTb := zw476
theorem zw502 : Cond.static mL_agent.1 ∈ zTb := List.mem_filter.mpr ⟨List.mem_append_right _ (List.mem_of_getElem? (i := 502) (by decide +kernel)), by decide +kernel⟩
theorem zt_mL_agent : Cond.static mL_agent.1 ∈ zTb := zw502
theorem zw554 : Cond.static mL_task.1 ∈ zTb := List.mem_filter.mpr ⟨List.mem_append_right _ (List.mem_of_getElem? (i := 554) (by decide +kernel)), by decide +kernel⟩
theorem zt_mL_task : Cond.static mL_task.1 ∈ zTb := zw554
theorem zw574 : Cond.static mL_note.1 ∈ zTb := List.mem_filter.mpr ⟨List.mem_append_right _ (List.mem_of_getElem? (i := 574) (by decide +kernel)), by decide +kernel⟩
theorem zt_mL_note : Cond.static mL_note.1 ∈ zTb := zw574
theorem zw582 : Cond.static mL_step.1 ∈ zTb := List.mem_filter.mpr ⟨List.mem_append_right _ (List.mem_of_getElem? (i := 582) (by decide +kernel)), by decide +kernel⟩
theorem zt_mL_step : Cond.static mL_step.1 ∈ zTb := zw582
theorem zw652 : Cond.static mL_setRange.1 ∈ zTb := List.mem_filter.mpr ⟨List.mem_append_right _ (List.mem_of_getElem? (i := 652) (by decide +kernel)), by decide +kernel⟩
theorem zt_mL_setRange : Cond.static mL_setRange.1 ∈ zTb := zw652
theorem zw659 : Cond.static mL_put.1 ∈ zTb := List.mem_filter.mpr ⟨List.mem_append_right _ (List.mem_of_getElem? (i := 659) (by decide +kernel)), by decide +kernel⟩
theorem zt_mL_put : Cond.static mL_put.1 ∈ zTb := zw659
theorem zw671 : Cond.static mL_toggle.1 ∈ zTb := List.mem_filter.mpr ⟨List.mem_append_right _ (List.mem_of_getElem? (i := 671) (by decide +kernel)), by decide +kernel⟩
theorem zt_mL_toggle : Cond.static mL_toggle.1 ∈ zTb := zw671
theorem zw688 : Cond.static mL_handOver.1 ∈ zTb := List.mem_filter.mpr ⟨List.mem_append_right _ (List.mem_of_getElem? (i := 688) (by decide +kernel)), by decide +kernel⟩
theorem zt_mL_handOver : Cond.static mL_handOver.1 ∈ zTb := zw688
theorem zw706 : Cond.static mL_drop.1 ∈ zTb := List.mem_filter.mpr ⟨List.mem_append_right _ (List.mem_of_getElem? (i := 706) (by decide +kernel)), by decide +kernel⟩
theorem zt_mL_drop : Cond.static mL_drop.1 ∈ zTb := zw706
theorem zw714 : Cond.static mL_setLifetime.1 ∈ zTb := List.mem_filter.mpr ⟨List.mem_append_right _ (List.mem_of_getElem? (i := 714) (by decide +kernel)), by decide +kernel⟩
theorem zt_mL_setLifetime : Cond.static mL_setLifetime.1 ∈ zTb := zw714
theorem zw721 : Cond.static mL_undo.1 ∈ zTb := List.mem_filter.mpr ⟨List.mem_append_right _ (List.mem_of_getElem? (i := 721) (by decide +kernel)), by decide +kernel⟩
theorem zt_mL_undo : Cond.static mL_undo.1 ∈ zTb := zw721
theorem zw732 : Cond.static mL_hops.1 ∈ zTb := List.mem_filter.mpr ⟨List.mem_append_right _ (List.mem_of_getElem? (i := 732) (by decide +kernel)), by decide +kernel⟩
theorem zt_mL_hops : Cond.static mL_hops.1 ∈ zTb := zw732
theorem zw741 : Cond.static mL_conflicts.1 ∈ zTb := List.mem_filter.mpr ⟨List.mem_append_right _ (List.mem_of_getElem? (i := 741) (by decide +kernel)), by decide +kernel⟩
theorem zt_mL_conflicts : Cond.static mL_conflicts.1 ∈ zTb := zw741
theorem zw763 : Cond.static mL_finishedAfter.1 ∈ zTb := List.mem_filter.mpr ⟨List.mem_append_right _ (List.mem_of_getElem? (i := 763) (by decide +kernel)), by decide +kernel⟩
theorem zt_mL_finishedAfter : Cond.static mL_finishedAfter.1 ∈ zTb := zw763
theorem zw770 : Cond.static mL_knownAfter.1 ∈ zTb := List.mem_filter.mpr ⟨List.mem_append_right _ (List.mem_of_getElem? (i := 770) (by decide +kernel)), by decide +kernel⟩
theorem zt_mL_knownAfter : Cond.static mL_knownAfter.1 ∈ zTb := zw770
theorem zw781 : Cond.static mL_wastedIf.1 ∈ zTb := List.mem_filter.mpr ⟨List.mem_append_right _ (List.mem_of_getElem? (i := 781) (by decide +kernel)), by decide +kernel⟩
theorem zt_mL_wastedIf : Cond.static mL_wastedIf.1 ∈ zTb := zw781
theorem zw788 : Cond.static mL_worstLoss.1 ∈ zTb := List.mem_filter.mpr ⟨List.mem_append_right _ (List.mem_of_getElem? (i := 788) (by decide +kernel)), by decide +kernel⟩
theorem zt_mL_worstLoss : Cond.static mL_worstLoss.1 ∈ zTb := zw788
theorem zw803 : Cond.static mL_bestShare.1 ∈ zTb := List.mem_filter.mpr ⟨List.mem_append_right _ (List.mem_of_getElem? (i := 803) (by decide +kernel)), by decide +kernel⟩
theorem zt_mL_bestShare : Cond.static mL_bestShare.1 ∈ zTb := zw803
theorem zw840 : Cond.static mL_runScript.1 ∈ zTb := List.mem_filter.mpr ⟨List.mem_append_right _ (List.mem_of_getElem? (i := 840) (by decide +kernel)), by decide +kernel⟩
theorem zt_mL_runScript : Cond.static mL_runScript.1 ∈ zTb := zw840
theorem zw865 : Cond.static mL_simulate.1 ∈ zTb := List.mem_filter.mpr ⟨List.mem_append_right _ (List.mem_of_getElem? (i := 865) (by decide +kernel)), by decide +kernel⟩
theorem zt_mL_simulate : Cond.static mL_simulate.1 ∈ zTb := zw865
theorem zw877 : Cond.static mL_save.1 ∈ zTb := List.mem_filter.mpr ⟨List.mem_append_right _ (List.mem_of_getElem? (i := 877) (by decide +kernel)), by decide +kernel⟩
theorem zt_mL_save : Cond.static mL_save.1 ∈ zTb := zw877
theorem zw884 : Cond.static mL_restore.1 ∈ zTb := List.mem_filter.mpr ⟨List.mem_append_right _ (List.mem_of_getElem? (i := 884) (by decide +kernel)), by decide +kernel⟩
theorem zt_mL_restore : Cond.static mL_restore.1 ∈ zTb := zw884
theorem zw0 : Cond.initialized RL ∈ zTb := List.mem_filter.mpr ⟨List.mem_append_right _ (List.mem_of_getElem? (i := 0) (by decide +kernel)), by decide +kernel⟩
theorem zdL : Cond.initialized RL ∈ zTb := zw0
theorem zdX7 : Cond.initialized RX7 ∈ zTb := zw1
theorem zdX5 : Cond.initialized RX5 ∈ zTb := zw2
theorem zdX6 : Cond.initialized RX6 ∈ zTb := zw3
theorem zdX2 : Cond.initialized RX2 ∈ zTb := zw4
theorem zdX1 : Cond.initialized RX1 ∈ zTb := zw5
theorem zdX4 : Cond.initialized RX4 ∈ zTb := zw6
theorem zdX0 : Cond.initialized RX0 ∈ zTb := zw7
theorem zdX3 : Cond.initialized RX3 ∈ zTb := zw8
theorem zdX8 : Cond.initialized RX8 ∈ zTb := zw9
theorem zw15 : Cond.initialized RJ10 ∈ zTb := List.mem_filter.mpr ⟨List.mem_append_right _ (List.mem_of_getElem? (i := 15) (by decide +kernel)), by decide +kernel⟩
theorem zdJ10 : Cond.initialized RJ10 ∈ zTb := zw15
theorem zdJ9 : Cond.initialized RJ9 ∈ zTb := zw17
theorem zdJ6 : Cond.initialized RJ6 ∈ zTb := zw18
theorem zw19 : Cond.classLink RL 8 RX7 ∈ zTb := List.mem_filter.mpr ⟨List.mem_append_right _ (List.mem_of_getElem? (i := 19) (by decide +kernel)), by decide +kernel⟩
theorem zyL_8 : Cond.classLink RL 8 RX7 ∈ zTb := zw19
theorem zw20 : Cond.instantiable RX7 9 ∈ zTb := List.mem_filter.mpr ⟨List.mem_append_right _ (List.mem_of_getElem? (i := 20) (by decide +kernel)), by decide +kernel⟩
theorem zuX7 : Cond.instantiable RX7 9 ∈ zTb := zw20
theorem zw24 : Cond.methodLink RX7 1 Lib.objectInit ∈ zTb := List.mem_filter.mpr ⟨List.mem_append_right _ (List.mem_of_getElem? (i := 24) (by decide +kernel)), by decide +kernel⟩
theorem zoX7_1 : Cond.methodLink RX7 1 Lib.objectInit ∈ zTb := zw24
theorem zw27 : Cond.classLink RX7 7 RX5 ∈ zTb := List.mem_filter.mpr ⟨List.mem_append_right _ (List.mem_of_getElem? (i := 27) (by decide +kernel)), by decide +kernel⟩
theorem zyX7_7 : Cond.classLink RX7 7 RX5 ∈ zTb := zw27
theorem zw28 : Cond.instantiable RX5 2 ∈ zTb := List.mem_filter.mpr ⟨List.mem_append_right _ (List.mem_of_getElem? (i := 28) (by decide +kernel)), by decide +kernel⟩
theorem zuX5 : Cond.instantiable RX5 2 ∈ zTb := zw28
theorem zw32 : Cond.methodLink RX5 3 Lib.objectInit ∈ zTb := List.mem_filter.mpr ⟨List.mem_append_right _ (List.mem_of_getElem? (i := 32) (by decide +kernel)), by decide +kernel⟩
theorem zoX5_3 : Cond.methodLink RX5 3 Lib.objectInit ∈ zTb := zw32
theorem zw42 : Cond.classLink RX7 16 RX6 ∈ zTb := List.mem_filter.mpr ⟨List.mem_append_right _ (List.mem_of_getElem? (i := 42) (by decide +kernel)), by decide +kernel⟩
theorem zyX7_16 : Cond.classLink RX7 16 RX6 ∈ zTb := zw42
theorem zw43 : Cond.instantiable RX6 15 ∈ zTb := List.mem_filter.mpr ⟨List.mem_append_right _ (List.mem_of_getElem? (i := 43) (by decide +kernel)), by decide +kernel⟩
theorem zuX6 : Cond.instantiable RX6 15 ∈ zTb := zw43
theorem zw47 : Cond.methodLink RX6 3 Lib.objectInit ∈ zTb := List.mem_filter.mpr ⟨List.mem_append_right _ (List.mem_of_getElem? (i := 47) (by decide +kernel)), by decide +kernel⟩
theorem zoX6_3 : Cond.methodLink RX6 3 Lib.objectInit ∈ zTb := zw47
theorem zw48 : Cond.classLink RX6 43 RX2 ∈ zTb := List.mem_filter.mpr ⟨List.mem_append_right _ (List.mem_of_getElem? (i := 48) (by decide +kernel)), by decide +kernel⟩
theorem zyX6_43 : Cond.classLink RX6 43 RX2 ∈ zTb := zw48
theorem zw49 : Cond.instantiable RX2 4 ∈ zTb := List.mem_filter.mpr ⟨List.mem_append_right _ (List.mem_of_getElem? (i := 49) (by decide +kernel)), by decide +kernel⟩
theorem zuX2 : Cond.instantiable RX2 4 ∈ zTb := zw49
theorem zw53 : Cond.methodLink RX2 3 Lib.objectInit ∈ zTb := List.mem_filter.mpr ⟨List.mem_append_right _ (List.mem_of_getElem? (i := 53) (by decide +kernel)), by decide +kernel⟩
theorem zoX2_3 : Cond.methodLink RX2 3 Lib.objectInit ∈ zTb := zw53
theorem zw152 : Cond.classLink RX7 26 RX1 ∈ zTb := List.mem_filter.mpr ⟨List.mem_append_right _ (List.mem_of_getElem? (i := 152) (by decide +kernel)), by decide +kernel⟩
theorem zyX7_26 : Cond.classLink RX7 26 RX1 ∈ zTb := zw152
theorem zw153 : Cond.instantiable RX1 3 ∈ zTb := List.mem_filter.mpr ⟨List.mem_append_right _ (List.mem_of_getElem? (i := 153) (by decide +kernel)), by decide +kernel⟩
theorem zuX1 : Cond.instantiable RX1 3 ∈ zTb := zw153
theorem zw157 : Cond.methodLink RX1 3 Lib.objectInit ∈ zTb := List.mem_filter.mpr ⟨List.mem_append_right _ (List.mem_of_getElem? (i := 157) (by decide +kernel)), by decide +kernel⟩
theorem zoX1_3 : Cond.methodLink RX1 3 Lib.objectInit ∈ zTb := zw157
theorem zw158 : Cond.classLink RX1 9 RX6 ∈ zTb := List.mem_filter.mpr ⟨List.mem_append_right _ (List.mem_of_getElem? (i := 158) (by decide +kernel)), by decide +kernel⟩
theorem zyX1_9 : Cond.classLink RX1 9 RX6 ∈ zTb := zw158
theorem zw172 : Cond.classLink RX7 41 RX4 ∈ zTb := List.mem_filter.mpr ⟨List.mem_append_right _ (List.mem_of_getElem? (i := 172) (by decide +kernel)), by decide +kernel⟩
theorem zyX7_41 : Cond.classLink RX7 41 RX4 ∈ zTb := zw172
theorem zw173 : Cond.instantiable RX4 1 ∈ zTb := List.mem_filter.mpr ⟨List.mem_append_right _ (List.mem_of_getElem? (i := 173) (by decide +kernel)), by decide +kernel⟩
theorem zuX4 : Cond.instantiable RX4 1 ∈ zTb := zw173
theorem zw177 : Cond.methodLink RX4 3 Lib.objectInit ∈ zTb := List.mem_filter.mpr ⟨List.mem_append_right _ (List.mem_of_getElem? (i := 177) (by decide +kernel)), by decide +kernel⟩
theorem zoX4_3 : Cond.methodLink RX4 3 Lib.objectInit ∈ zTb := zw177
theorem zw178 : Cond.classLink RX4 9 RX2 ∈ zTb := List.mem_filter.mpr ⟨List.mem_append_right _ (List.mem_of_getElem? (i := 178) (by decide +kernel)), by decide +kernel⟩
theorem zyX4_9 : Cond.classLink RX4 9 RX2 ∈ zTb := zw178
theorem zw184 : Cond.classLink RX7 48 RX0 ∈ zTb := List.mem_filter.mpr ⟨List.mem_append_right _ (List.mem_of_getElem? (i := 184) (by decide +kernel)), by decide +kernel⟩
theorem zyX7_48 : Cond.classLink RX7 48 RX0 ∈ zTb := zw184
theorem zw185 : Cond.instantiable RX0 1 ∈ zTb := List.mem_filter.mpr ⟨List.mem_append_right _ (List.mem_of_getElem? (i := 185) (by decide +kernel)), by decide +kernel⟩
theorem zuX0 : Cond.instantiable RX0 1 ∈ zTb := zw185
theorem zw189 : Cond.methodLink RX0 3 Lib.objectInit ∈ zTb := List.mem_filter.mpr ⟨List.mem_append_right _ (List.mem_of_getElem? (i := 189) (by decide +kernel)), by decide +kernel⟩
theorem zoX0_3 : Cond.methodLink RX0 3 Lib.objectInit ∈ zTb := zw189
theorem zw194 : Cond.classLink RX7 57 RX3 ∈ zTb := List.mem_filter.mpr ⟨List.mem_append_right _ (List.mem_of_getElem? (i := 194) (by decide +kernel)), by decide +kernel⟩
theorem zyX7_57 : Cond.classLink RX7 57 RX3 ∈ zTb := zw194
theorem zw195 : Cond.instantiable RX3 3 ∈ zTb := List.mem_filter.mpr ⟨List.mem_append_right _ (List.mem_of_getElem? (i := 195) (by decide +kernel)), by decide +kernel⟩
theorem zuX3 : Cond.instantiable RX3 3 ∈ zTb := zw195
theorem zw199 : Cond.methodLink RX3 3 Lib.objectInit ∈ zTb := List.mem_filter.mpr ⟨List.mem_append_right _ (List.mem_of_getElem? (i := 199) (by decide +kernel)), by decide +kernel⟩
theorem zoX3_3 : Cond.methodLink RX3 3 Lib.objectInit ∈ zTb := zw199
theorem zw356 : Cond.classLink RL 13 "java/lang/IllegalArgumentException" ∈ zTb := List.mem_filter.mpr ⟨List.mem_append_right _ (List.mem_of_getElem? (i := 356) (by decide +kernel)), by decide +kernel⟩
theorem zyL_13 : Cond.classLink RL 13 "java/lang/IllegalArgumentException" ∈ zTb := zw356
theorem zw357 : Cond.classLink RL 15 "java/lang/IllegalStateException" ∈ zTb := List.mem_filter.mpr ⟨List.mem_append_right _ (List.mem_of_getElem? (i := 357) (by decide +kernel)), by decide +kernel⟩
theorem zyL_15 : Cond.classLink RL 15 "java/lang/IllegalStateException" ∈ zTb := zw357
theorem zw368 : Cond.classLink RX7 299 "java/lang/IllegalArgumentException" ∈ zTb := List.mem_filter.mpr ⟨List.mem_append_right _ (List.mem_of_getElem? (i := 368) (by decide +kernel)), by decide +kernel⟩
theorem zyX7_299 : Cond.classLink RX7 299 "java/lang/IllegalArgumentException" ∈ zTb := zw368
theorem zw443 : Cond.classLink RX7 304 "java/lang/IllegalStateException" ∈ zTb := List.mem_filter.mpr ⟨List.mem_append_right _ (List.mem_of_getElem? (i := 443) (by decide +kernel)), by decide +kernel⟩
theorem zyX7_304 : Cond.classLink RX7 304 "java/lang/IllegalStateException" ∈ zTb := zw443
theorem zw504 : Cond.classLink RL 28 "java/lang/IndexOutOfBoundsException" ∈ zTb := List.mem_filter.mpr ⟨List.mem_append_right _ (List.mem_of_getElem? (i := 504) (by decide +kernel)), by decide +kernel⟩
theorem zyL_28 : Cond.classLink RL 28 "java/lang/IndexOutOfBoundsException" ∈ zTb := zw504
theorem zw516 : Cond.classLink RX7 292 "java/lang/IndexOutOfBoundsException" ∈ zTb := List.mem_filter.mpr ⟨List.mem_append_right _ (List.mem_of_getElem? (i := 516) (by decide +kernel)), by decide +kernel⟩
theorem zyX7_292 : Cond.classLink RX7 292 "java/lang/IndexOutOfBoundsException" ∈ zTb := zw516
theorem zw684 : Cond.constant RJ6 265 1431655765 ∈ zTb := List.mem_filter.mpr ⟨List.mem_append_right _ (List.mem_of_getElem? (i := 684) (by decide +kernel)), by decide +kernel⟩
theorem zqJ6_265 : Cond.constant RJ6 265 1431655765 ∈ zTb := zw684
theorem zw685 : Cond.constant RJ6 266 858993459 ∈ zTb := List.mem_filter.mpr ⟨List.mem_append_right _ (List.mem_of_getElem? (i := 685) (by decide +kernel)), by decide +kernel⟩
theorem zqJ6_266 : Cond.constant RJ6 266 858993459 ∈ zTb := zw685
theorem zw686 : Cond.constant RJ6 267 252645135 ∈ zTb := List.mem_filter.mpr ⟨List.mem_append_right _ (List.mem_of_getElem? (i := 686) (by decide +kernel)), by decide +kernel⟩
theorem zqJ6_267 : Cond.constant RJ6 267 252645135 ∈ zTb := zw686
theorem zw846 : Cond.constantLong RX7 279 100000 ∈ zTb := List.mem_filter.mpr ⟨List.mem_append_right _ (List.mem_of_getElem? (i := 846) (by decide +kernel)), by decide +kernel⟩
theorem zqX7_279 : Cond.constantLong RX7 279 100000 ∈ zTb := zw846
theorem zw871 : Cond.constantLong RX7 285 6364136223846793005 ∈ zTb := List.mem_filter.mpr ⟨List.mem_append_right _ (List.mem_of_getElem? (i := 871) (by decide +kernel)), by decide +kernel⟩
theorem zqX7_285 : Cond.constantLong RX7 285 6364136223846793005 ∈ zTb := zw871
theorem zw872 : Cond.constantLong RX7 287 1442695040888963407 ∈ zTb := List.mem_filter.mpr ⟨List.mem_append_right _ (List.mem_of_getElem? (i := 872) (by decide +kernel)), by decide +kernel⟩
theorem zqX7_287 : Cond.constantLong RX7 287 1442695040888963407 ∈ zTb := zw872
theorem zw890 : Cond.classLink RL 97 RX8 ∈ zTb := List.mem_filter.mpr ⟨List.mem_append_right _ (List.mem_of_getElem? (i := 890) (by decide +kernel)), by decide +kernel⟩
theorem zyL_97 : Cond.classLink RL 97 RX8 ∈ zTb := zw890
theorem zw891 : Cond.instantiable RX8 15 ∈ zTb := List.mem_filter.mpr ⟨List.mem_append_right _ (List.mem_of_getElem? (i := 891) (by decide +kernel)), by decide +kernel⟩
theorem zuX8 : Cond.instantiable RX8 15 ∈ zTb := zw891
theorem zw895 : Cond.methodLink RX8 1 Lib.objectInit ∈ zTb := List.mem_filter.mpr ⟨List.mem_append_right _ (List.mem_of_getElem? (i := 895) (by decide +kernel)), by decide +kernel⟩
theorem zoX8_1 : Cond.methodLink RX8 1 Lib.objectInit ∈ zTb := zw895
theorem zw951 : Cond.constantLong RX8 121 255 ∈ zTb := List.mem_filter.mpr ⟨List.mem_append_right _ (List.mem_of_getElem? (i := 951) (by decide +kernel)), by decide +kernel⟩
theorem zqX8_121 : Cond.constantLong RX8 121 255 ∈ zTb := zw951
theorem zw1004 : Cond.constantLong RX8 150 7 ∈ zTb := List.mem_filter.mpr ⟨List.mem_append_right _ (List.mem_of_getElem? (i := 1004) (by decide +kernel)), by decide +kernel⟩
theorem zqX8_150 : Cond.constantLong RX8 150 7 ∈ zTb := zw1004
theorem zw1054 : Cond.constantLong RX8 165 6 ∈ zTb := List.mem_filter.mpr ⟨List.mem_append_right _ (List.mem_of_getElem? (i := 1054) (by decide +kernel)), by decide +kernel⟩
theorem zqX8_165 : Cond.constantLong RX8 165 6 ∈ zTb := zw1054
theorem zw1062 : Cond.constantLong RX8 170 3 ∈ zTb := List.mem_filter.mpr ⟨List.mem_append_right _ (List.mem_of_getElem? (i := 1062) (by decide +kernel)), by decide +kernel⟩
theorem zqX8_170 : Cond.constantLong RX8 170 3 ∈ zTb := zw1062
theorem zw1067 : Cond.constantLong RX8 172 99 ∈ zTb := List.mem_filter.mpr ⟨List.mem_append_right _ (List.mem_of_getElem? (i := 1067) (by decide +kernel)), by decide +kernel⟩
theorem zqX8_172 : Cond.constantLong RX8 172 99 ∈ zTb := zw1067
theorem zw1099 : Cond.constantLong RX8 180 22 ∈ zTb := List.mem_filter.mpr ⟨List.mem_append_right _ (List.mem_of_getElem? (i := 1099) (by decide +kernel)), by decide +kernel⟩
theorem zqX8_180 : Cond.constantLong RX8 180 22 ∈ zTb := zw1099
theorem zw1107 : Cond.constantLong RX8 182 11 ∈ zTb := List.mem_filter.mpr ⟨List.mem_append_right _ (List.mem_of_getElem? (i := 1107) (by decide +kernel)), by decide +kernel⟩
theorem zqX8_182 : Cond.constantLong RX8 182 11 ∈ zTb := zw1107
theorem zw1136 : Cond.constantLong RX8 200 20 ∈ zTb := List.mem_filter.mpr ⟨List.mem_append_right _ (List.mem_of_getElem? (i := 1136) (by decide +kernel)), by decide +kernel⟩
theorem zqX8_200 : Cond.constantLong RX8 200 20 ∈ zTb := zw1136
theorem zw1169 : Cond.constantLong RX8 211 2 ∈ zTb := List.mem_filter.mpr ⟨List.mem_append_right _ (List.mem_of_getElem? (i := 1169) (by decide +kernel)), by decide +kernel⟩
theorem zqX8_211 : Cond.constantLong RX8 211 2 ∈ zTb := zw1169
theorem zw1177 : Cond.constantLong RX8 216 8 ∈ zTb := List.mem_filter.mpr ⟨List.mem_append_right _ (List.mem_of_getElem? (i := 1177) (by decide +kernel)), by decide +kernel⟩
theorem zqX8_216 : Cond.constantLong RX8 216 8 ∈ zTb := zw1177
theorem zw1215 : Cond.constantLong RX8 48 10 ∈ zTb := List.mem_filter.mpr ⟨List.mem_append_right _ (List.mem_of_getElem? (i := 1215) (by decide +kernel)), by decide +kernel⟩
theorem zqX8_48 : Cond.constantLong RX8 48 10 ∈ zTb := zw1215
theorem zw1216 : Cond.constantLong RX8 235 100000 ∈ zTb := List.mem_filter.mpr ⟨List.mem_append_right _ (List.mem_of_getElem? (i := 1216) (by decide +kernel)), by decide +kernel⟩
theorem zqX8_235 : Cond.constantLong RX8 235 100000 ∈ zTb := zw1216
theorem zw1225 : Cond.constantLong RX8 240 60 ∈ zTb := List.mem_filter.mpr ⟨List.mem_append_right _ (List.mem_of_getElem? (i := 1225) (by decide +kernel)), by decide +kernel⟩
theorem zqX8_240 : Cond.constantLong RX8 240 60 ∈ zTb := zw1225
theorem zw1226 : Cond.constantLong RX8 242 6364136223846793005 ∈ zTb := List.mem_filter.mpr ⟨List.mem_append_right _ (List.mem_of_getElem? (i := 1226) (by decide +kernel)), by decide +kernel⟩
theorem zqX8_242 : Cond.constantLong RX8 242 6364136223846793005 ∈ zTb := zw1226
theorem zw1227 : Cond.constantLong RX8 244 1442695040888963407 ∈ zTb := List.mem_filter.mpr ⟨List.mem_append_right _ (List.mem_of_getElem? (i := 1227) (by decide +kernel)), by decide +kernel⟩
theorem zqX8_244 : Cond.constantLong RX8 244 1442695040888963407 ∈ zTb := zw1227
theorem zw1236 : Cond.constantLong RL 188 4294967295 ∈ zTb := List.mem_filter.mpr ⟨List.mem_append_right _ (List.mem_of_getElem? (i := 1236) (by decide +kernel)), by decide +kernel⟩
theorem zqL_188 : Cond.constantLong RL 188 4294967295 ∈ zTb := zw1236
theorem zw25 : Cond.instanceMethod Lib.objectInit ∈ zTb := List.mem_filter.mpr ⟨List.mem_append_right _ (List.mem_of_getElem? (i := 25) (by decide +kernel)), by decide +kernel⟩
theorem zo_i : Cond.instanceMethod Lib.objectInit ∈ zTb := zw25
theorem zw26 : Cond.code Lib.objectInit ⟨#[0xb1]⟩ 1 none ∈ zTb := List.mem_filter.mpr ⟨List.mem_append_right _ (List.mem_of_getElem? (i := 26) (by decide +kernel)), by decide +kernel⟩
theorem zo_c : Cond.code Lib.objectInit ⟨#[0xb1]⟩ 1 none ∈ zTb := zw26
theorem zw41 : Cond.arrayClass .int ∈ zTb := List.mem_filter.mpr ⟨List.mem_append_right _ (List.mem_of_getElem? (i := 41) (by decide +kernel)), by decide +kernel⟩
theorem za_int : Cond.arrayClass .int ∈ zTb := zw41
theorem zw942 : Cond.arrayClass .boolean ∈ zTb := List.mem_filter.mpr ⟨List.mem_append_right _ (List.mem_of_getElem? (i := 942) (by decide +kernel)), by decide +kernel⟩
theorem za_boolean : Cond.arrayClass .boolean ∈ zTb := zw942
theorem zw1237 : Cond.arrayClass .long ∈ zTb := List.mem_filter.mpr ⟨List.mem_append_right _ (List.mem_of_getElem? (i := 1237) (by decide +kernel)), by decide +kernel⟩
theorem za_long : Cond.arrayClass .long ∈ zTb := zw1237
