abbrev mJ7_fill_53178 : zM := (yJ7_fill_53178, cJ7_fill_53178, 4, none, { frames := 0, cells := 0, slots := 0, locals := 0 })
abbrev mX0_howMany : zM := (yX0_howMany, cX0_howMany, 4, some .int, { frames := 0, cells := 0, slots := 0, locals := 0 })
abbrev mX0_isHeard : zM := (yX0_isHeard, cX0_isHeard, 6, some .boolean, { frames := 0, cells := 0, slots := 0, locals := 0 })
abbrev mX0_lineUp : zM := (yX0_lineUp, cX0_lineUp, 4, none, { frames := 0, cells := 0, slots := 0, locals := 0 })
abbrev mX0_losses : zM := (yX0_losses, cX0_losses, 3, some .int, { frames := 0, cells := 0, slots := 0, locals := 0 })
abbrev mX0_seconds : zM := (yX0_seconds, cX0_seconds, 3, some .int, { frames := 0, cells := 0, slots := 0, locals := 0 })
abbrev mX10_becomes : zM := (yX10_becomes, cX10_becomes, 4, some .int, { frames := 0, cells := 0, slots := 0, locals := 0 })
abbrev mX10_draw : zM := (yX10_draw, cX10_draw, 4, some .int, { frames := 0, cells := 0, slots := 0, locals := 0 })
abbrev mX10_fails : zM := (yX10_fails, cX10_fails, 2, some .boolean, { frames := 0, cells := 0, slots := 0, locals := 0 })
abbrev mX10_fault : zM := (yX10_fault, cX10_fault, 1, some .int, { frames := 0, cells := 0, slots := 0, locals := 0 })
abbrev mX10_hold : zM := (yX10_hold, cX10_hold, 2, none, { frames := 0, cells := 0, slots := 0, locals := 0 })
abbrev mX10_in : zM := (yX10_in, cX10_in, 3, some .boolean, { frames := 0, cells := 0, slots := 0, locals := 0 })
abbrev mX10_isBusy : zM := (yX10_isBusy, cX10_isBusy, 4, some .boolean, { frames := 0, cells := 0, slots := 0, locals := 0 })
abbrev mX10_layPlaces : zM := (yX10_layPlaces, cX10_layPlaces, 5, some .int, { frames := 0, cells := 0, slots := 0, locals := 0 })
abbrev mX10_lose : zM := (yX10_lose, cX10_lose, 2, none, { frames := 0, cells := 0, slots := 0, locals := 0 })
abbrev mX10_loss : zM := (yX10_loss, cX10_loss, 5, some .int, { frames := 0, cells := 0, slots := 0, locals := 0 })
abbrev mX10_release : zM := (yX10_release, cX10_release, 2, none, { frames := 0, cells := 0, slots := 0, locals := 0 })
abbrev mX10_swing : zM := (yX10_swing, cX10_swing, 4, some .int, { frames := 0, cells := 0, slots := 0, locals := 0 })
abbrev mX10_tear : zM := (yX10_tear, cX10_tear, 2, some .int, { frames := 0, cells := 0, slots := 0, locals := 0 })
abbrev mX10_widen : zM := (yX10_widen, cX10_widen, 6, none, { frames := 0, cells := 0, slots := 0, locals := 0 })
abbrev mX3_crash : zM := (yX3_crash, cX3_crash, 1, none, { frames := 0, cells := 0, slots := 0, locals := 0 })
abbrev mX4_makeUntold : zM := (yX4_makeUntold, cX4_makeUntold, 1, none, { frames := 0, cells := 0, slots := 0, locals := 0 })
abbrev mX5_fail : zM := (yX5_fail, cX5_fail, 3, none, { frames := 0, cells := 0, slots := 0, locals := 0 })
abbrev mX5_figureAt : zM := (yX5_figureAt, cX5_figureAt, 2, some .boolean, { frames := 0, cells := 0, slots := 0, locals := 0 })
abbrev mX5_skipBlanks : zM := (yX5_skipBlanks, cX5_skipBlanks, 2, none, { frames := 0, cells := 0, slots := 0, locals := 0 })
abbrev mX5_take : zM := (yX5_take, cX5_take, 2, some .int, { frames := 0, cells := 0, slots := 0, locals := 0 })
abbrev mX6_bringForward : zM := (yX6_bringForward, cX6_bringForward, 5, none, { frames := 0, cells := 0, slots := 0, locals := 0 })
abbrev mX6_giveTenths : zM := (yX6_giveTenths, cX6_giveTenths, 3, none, { frames := 0, cells := 0, slots := 0, locals := 0 })
abbrev mX6_insertTenth : zM := (yX6_insertTenth, cX6_insertTenth, 3, none, { frames := 0, cells := 0, slots := 0, locals := 0 })
abbrev mX6_orders : zM := (yX6_orders, cX6_orders, 1, some .int, { frames := 0, cells := 0, slots := 0, locals := 0 })
abbrev mX7_busyFor : zM := (yX7_busyFor, cX7_busyFor, 3, some .boolean, { frames := 0, cells := 0, slots := 0, locals := 0 })
abbrev mX7_comesBackAt : zM := (yX7_comesBackAt, cX7_comesBackAt, 2, some .boolean, { frames := 0, cells := 0, slots := 0, locals := 0 })
abbrev mX7_openAt : zM := (yX7_openAt, cX7_openAt, 2, some .boolean, { frames := 0, cells := 0, slots := 0, locals := 0 })
abbrev mX7_takeKick : zM := (yX7_takeKick, cX7_takeKick, 4, none, { frames := 0, cells := 0, slots := 0, locals := 0 })
abbrev mX8_changeAt : zM := (yX8_changeAt, cX8_changeAt, 5, none, { frames := 0, cells := 0, slots := 0, locals := 0 })
abbrev mX8_lossOf : zM := (yX8_lossOf, cX8_lossOf, 5, some .int, { frames := 0, cells := 0, slots := 0, locals := 0 })
abbrev mX8_oneComesAt : zM := (yX8_oneComesAt, cX8_oneComesAt, 3, some .boolean, { frames := 0, cells := 0, slots := 0, locals := 0 })
abbrev mX8_spellRules : zM := (yX8_spellRules, cX8_spellRules, 4, none, { frames := 0, cells := 0, slots := 0, locals := 0 })
abbrev mX9_commonDivisor : zM := (yX9_commonDivisor, cX9_commonDivisor, 6, some .int, { frames := 0, cells := 0, slots := 0, locals := 0 })
abbrev mX9_drawOf : zM := (yX9_drawOf, cX9_drawOf, 2, some .int, { frames := 0, cells := 0, slots := 0, locals := 0 })
abbrev mX9_fault : zM := (yX9_fault, cX9_fault, 1, some .int, { frames := 0, cells := 0, slots := 0, locals := 0 })
abbrev mX9_glass : zM := (yX9_glass, cX9_glass, 3, some .int, { frames := 0, cells := 0, slots := 0, locals := 0 })
abbrev mX9_noImage : zM := (yX9_noImage, cX9_noImage, 1, some .boolean, { frames := 0, cells := 0, slots := 0, locals := 0 })
abbrev mX9_noLeaf : zM := (yX9_noLeaf, cX9_noLeaf, 1, some .boolean, { frames := 0, cells := 0, slots := 0, locals := 0 })
abbrev mX9_noRule : zM := (yX9_noRule, cX9_noRule, 1, some .boolean, { frames := 0, cells := 0, slots := 0, locals := 0 })
abbrev mX9_noSide : zM := (yX9_noSide, cX9_noSide, 1, some .boolean, { frames := 0, cells := 0, slots := 0, locals := 0 })
abbrev mX9_noWaiter : zM := (yX9_noWaiter, cX9_noWaiter, 2, some .boolean, { frames := 0, cells := 0, slots := 0, locals := 0 })
abbrev mX9_noise : zM := (yX9_noise, cX9_noise, 3, some .int, { frames := 0, cells := 0, slots := 0, locals := 0 })
abbrev mX9_seed : zM := (yX9_seed, cX9_seed, 3, some .int, { frames := 0, cells := 0, slots := 0, locals := 0 })
abbrev mX9_tear : zM := (yX9_tear, cX9_tear, 2, some .int, { frames := 0, cells := 0, slots := 0, locals := 0 })
abbrev mX9_until : zM := (yX9_until, cX9_until, 8, some .int, { frames := 0, cells := 0, slots := 0, locals := 0 })
abbrev mX0_crashBoth : zM := (yX0_crashBoth, cX0_crashBoth, 3, none, { frames := 1, cells := 0, slots := 0, locals := 20 })
abbrev mX9_feed : zM := (yX9_feed, cX9_feed, 2, some .int, { frames := 1, cells := 0, slots := 0, locals := 21 })
abbrev mX9_put : zM := (yX9_put, cX9_put, 7, some .int, { frames := 1, cells := 0, slots := 0, locals := 21 })
abbrev mX9_waiter : zM := (yX9_waiter, cX9_waiter, 3, some .int, { frames := 1, cells := 0, slots := 0, locals := 21 })
abbrev mX9_write : zM := (yX9_write, cX9_write, 3, some .int, { frames := 1, cells := 0, slots := 0, locals := 21 })
abbrev mX0_chooseLeaf : zM := (yX0_chooseLeaf, cX0_chooseLeaf, 6, some .int, { frames := 1, cells := 0, slots := 0, locals := 22 })
abbrev mX0_cost : zM := (yX0_cost, cX0_cost, 1, some .int, { frames := 1, cells := 0, slots := 0, locals := 22 })
abbrev mX10_feed : zM := (yX10_feed, cX10_feed, 2, some .int, { frames := 1, cells := 0, slots := 0, locals := 22 })
abbrev mX10_goBack : zM := (yX10_goBack, cX10_goBack, 3, some .int, { frames := 1, cells := 0, slots := 0, locals := 22 })
abbrev mX10_isHeard : zM := (yX10_isHeard, cX10_isHeard, 4, some .boolean, { frames := 1, cells := 0, slots := 0, locals := 22 })
abbrev mX10_isOne : zM := (yX10_isOne, cX10_isOne, 2, some .boolean, { frames := 1, cells := 0, slots := 0, locals := 22 })
abbrev mX10_keep : zM := (yX10_keep, cX10_keep, 3, some .int, { frames := 1, cells := 0, slots := 0, locals := 22 })
abbrev mX10_nextToken : zM := (yX10_nextToken, cX10_nextToken, 1, none, { frames := 1, cells := 0, slots := 0, locals := 22 })
abbrev mX10_stack : zM := (yX10_stack, cX10_stack, 6, some .int, { frames := 1, cells := 0, slots := 0, locals := 22 })
abbrev mX10_unheard : zM := (yX10_unheard, cX10_unheard, 9, some .int, { frames := 1, cells := 0, slots := 0, locals := 22 })
abbrev mX10_until : zM := (yX10_until, cX10_until, 8, some .int, { frames := 1, cells := 0, slots := 0, locals := 22 })
abbrev mX5_readEnd : zM := (yX5_readEnd, cX5_readEnd, 1, none, { frames := 1, cells := 0, slots := 0, locals := 22 })
abbrev mX6_gather : zM := (yX6_gather, cX6_gather, 5, none, { frames := 1, cells := 0, slots := 0, locals := 22 })
abbrev mX7_doing : zM := (yX7_doing, cX7_doing, 2, some .int, { frames := 1, cells := 0, slots := 0, locals := 22 })
abbrev mX10_glass : zM := (yX10_glass, cX10_glass, 2, some .int, { frames := 1, cells := 0, slots := 0, locals := 23 })
abbrev mX10_leafFor : zM := (yX10_leafFor, cX10_leafFor, 6, some .int, { frames := 1, cells := 0, slots := 0, locals := 23 })
abbrev mX10_noise : zM := (yX10_noise, cX10_noise, 2, some .int, { frames := 1, cells := 0, slots := 0, locals := 23 })
abbrev mX10_seed : zM := (yX10_seed, cX10_seed, 2, some .int, { frames := 1, cells := 0, slots := 0, locals := 23 })
abbrev mX1_makeUntold : zM := (yX1_makeUntold, cX1_makeUntold, 1, none, { frames := 1, cells := 0, slots := 0, locals := 23 })
abbrev mX7_rest : zM := (yX7_rest, cX7_rest, 1, none, { frames := 1, cells := 0, slots := 0, locals := 23 })
abbrev mX8_restingPairs : zM := (yX8_restingPairs, cX8_restingPairs, 8, some .int, { frames := 1, cells := 0, slots := 0, locals := 24 })
abbrev mX10_crash : zM := (yX10_crash, cX10_crash, 5, none, { frames := 1, cells := 0, slots := 0, locals := 25 })
abbrev mX10_goThrough : zM := (yX10_goThrough, cX10_goThrough, 8, none, { frames := 1, cells := 0, slots := 0, locals := 25 })
abbrev mX9_unheard : zM := (yX9_unheard, cX9_unheard, 7, some .int, { frames := 1, cells := 0, slots := 0, locals := 25 })
abbrev mX0_end : zM := (yX0_end, cX0_end, 3, some .int, { frames := 1, cells := 0, slots := 0, locals := 40 })
abbrev mX0_goThrough : zM := (yX0_goThrough, cX0_goThrough, 7, none, { frames := 1, cells := 0, slots := 0, locals := 40 })
abbrev mX10_init : zM := (yX10_init, cX10_init, 1, none, { frames := 1, cells := 30, slots := 700, locals := 40 })
abbrev mX1_copyFrom : zM := (yX1_copyFrom, cX1_copyFrom, 2, none, { frames := 1, cells := 0, slots := 0, locals := 40 })
abbrev mX3_init : zM := (yX3_init, cX3_init, 1, none, { frames := 1, cells := 0, slots := 0, locals := 40 })
abbrev mX4_copyFrom : zM := (yX4_copyFrom, cX4_copyFrom, 2, none, { frames := 1, cells := 0, slots := 0, locals := 40 })
abbrev mX4_init : zM := (yX4_init, cX4_init, 1, none, { frames := 1, cells := 3, slots := 18, locals := 40 })
abbrev mX5_readNumber : zM := (yX5_readNumber, cX5_readNumber, 5, some .int, { frames := 1, cells := 0, slots := 0, locals := 40 })
abbrev mX6_init : zM := (yX6_init, cX6_init, 1, none, { frames := 1, cells := 3, slots := 18, locals := 40 })
abbrev mX6_seatBy : zM := (yX6_seatBy, cX6_seatBy, 5, none, { frames := 1, cells := 0, slots := 0, locals := 40 })
abbrev mX7_init : zM := (yX7_init, cX7_init, 1, none, { frames := 1, cells := 3, slots := 6, locals := 40 })
abbrev mX7_letThrough : zM := (yX7_letThrough, cX7_letThrough, 5, none, { frames := 1, cells := 0, slots := 0, locals := 40 })
abbrev mX9_carried : zM := (yX9_carried, cX9_carried, 2, some .int, { frames := 1, cells := 0, slots := 0, locals := 40 })
abbrev mX10_isEnd : zM := (yX10_isEnd, cX10_isEnd, 1, some .boolean, { frames := 2, cells := 0, slots := 0, locals := 42 })
abbrev mX10_isNumber : zM := (yX10_isNumber, cX10_isNumber, 3, some .boolean, { frames := 2, cells := 0, slots := 0, locals := 42 })
abbrev mX10_come : zM := (yX10_come, cX10_come, 3, some .int, { frames := 2, cells := 0, slots := 0, locals := 43 })
abbrev mX10_kick : zM := (yX10_kick, cX10_kick, 3, some .int, { frames := 2, cells := 0, slots := 0, locals := 43 })
abbrev mX10_rests : zM := (yX10_rests, cX10_rests, 7, some .int, { frames := 2, cells := 0, slots := 0, locals := 43 })
abbrev mX10_rule : zM := (yX10_rule, cX10_rule, 3, some .int, { frames := 2, cells := 0, slots := 0, locals := 43 })
abbrev mX10_waiter : zM := (yX10_waiter, cX10_waiter, 3, some .int, { frames := 2, cells := 0, slots := 0, locals := 43 })
abbrev mX10_write : zM := (yX10_write, cX10_write, 3, some .int, { frames := 2, cells := 0, slots := 0, locals := 43 })
abbrev mX1_init : zM := (yX1_init, cX1_init, 1, none, { frames := 2, cells := 6, slots := 28, locals := 43 })
abbrev mX9_come : zM := (yX9_come, cX9_come, 3, some .int, { frames := 2, cells := 0, slots := 0, locals := 47 })
abbrev mX9_kick : zM := (yX9_kick, cX9_kick, 3, some .int, { frames := 2, cells := 0, slots := 0, locals := 47 })
abbrev mX9_rule : zM := (yX9_rule, cX9_rule, 3, some .int, { frames := 2, cells := 0, slots := 0, locals := 47 })
abbrev mX9_rests : zM := (yX9_rests, cX9_rests, 3, some .int, { frames := 2, cells := 0, slots := 0, locals := 51 })
abbrev mX10_look : zM := (yX10_look, cX10_look, 6, none, { frames := 2, cells := 0, slots := 0, locals := 52 })
abbrev mX0_init : zM := (yX0_init, cX0_init, 3, none, { frames := 2, cells := 17, slots := 78, locals := 60 })
abbrev mX2_init : zM := (yX2_init, cX2_init, 1, none, { frames := 2, cells := 4, slots := 23, locals := 60 })
abbrev mX8_init : zM := (yX8_init, cX8_init, 4, none, { frames := 2, cells := 8, slots := 45, locals := 60 })
abbrev mX8_startSearch : zM := (yX8_startSearch, cX8_startSearch, 1, none, { frames := 2, cells := 0, slots := 0, locals := 61 })
abbrev mX9_goBack : zM := (yX9_goBack, cX9_goBack, 2, some .int, { frames := 2, cells := 0, slots := 0, locals := 61 })
abbrev mX9_keep : zM := (yX9_keep, cX9_keep, 2, some .int, { frames := 2, cells := 0, slots := 0, locals := 61 })
abbrev mX9_stack : zM := (yX9_stack, cX9_stack, 4, some .int, { frames := 2, cells := 0, slots := 0, locals := 61 })
abbrev mX5_readLeaf : zM := (yX5_readLeaf, cX5_readLeaf, 2, none, { frames := 2, cells := 0, slots := 0, locals := 64 })
abbrev mX5_readNoise : zM := (yX5_readNoise, cX5_readNoise, 1, none, { frames := 2, cells := 0, slots := 0, locals := 64 })
abbrev mX5_readWaiter : zM := (yX5_readWaiter, cX5_readWaiter, 2, none, { frames := 2, cells := 0, slots := 0, locals := 64 })
abbrev mX5_readWindow : zM := (yX5_readWindow, cX5_readWindow, 1, none, { frames := 2, cells := 0, slots := 0, locals := 64 })
abbrev mX0_lookAt : zM := (yX0_lookAt, cX0_lookAt, 10, none, { frames := 2, cells := 0, slots := 0, locals := 66 })
abbrev mX5_init : zM := (yX5_init, cX5_init, 1, none, { frames := 3, cells := 13, slots := 310, locals := 63 })
abbrev mX10_isGlassLine : zM := (yX10_isGlassLine, cX10_isGlassLine, 1, some .boolean, { frames := 3, cells := 0, slots := 0, locals := 64 })
abbrev mX10_isLeafLine : zM := (yX10_isLeafLine, cX10_isLeafLine, 2, some .boolean, { frames := 3, cells := 0, slots := 0, locals := 64 })
abbrev mX10_isNoiseLine : zM := (yX10_isNoiseLine, cX10_isNoiseLine, 1, some .boolean, { frames := 3, cells := 0, slots := 0, locals := 64 })
abbrev mX10_isWaiterLine : zM := (yX10_isWaiterLine, cX10_isWaiterLine, 5, some .boolean, { frames := 3, cells := 0, slots := 0, locals := 64 })
abbrev mX10_costNow : zM := (yX10_costNow, cX10_costNow, 6, some .int, { frames := 3, cells := 0, slots := 0, locals := 77 })
abbrev mX5_readClause : zM := (yX5_readClause, cX5_readClause, 2, none, { frames := 3, cells := 0, slots := 0, locals := 85 })
abbrev mX0_run : zM := (yX0_run, cX0_run, 3, none, { frames := 3, cells := 0, slots := 0, locals := 95 })
abbrev mX9_init : zM := (yX9_init, cX9_init, 2, none, { frames := 4, cells := 65, slots := 607, locals := 83 })
abbrev mX10_isRead : zM := (yX10_isRead, cX10_isRead, 2, some .boolean, { frames := 4, cells := 0, slots := 0, locals := 88 })
abbrev mX10_all : zM := (yX10_all, cX10_all, 3, some .int, { frames := 4, cells := 0, slots := 0, locals := 102 })
abbrev mX10_apart : zM := (yX10_apart, cX10_apart, 6, some .int, { frames := 4, cells := 0, slots := 0, locals := 102 })
abbrev mX10_best : zM := (yX10_best, cX10_best, 8, some .int, { frames := 4, cells := 0, slots := 0, locals := 102 })
abbrev mX10_bestKick : zM := (yX10_bestKick, cX10_bestKick, 8, some .int, { frames := 4, cells := 0, slots := 0, locals := 102 })
abbrev mX10_change : zM := (yX10_change, cX10_change, 9, some .int, { frames := 4, cells := 0, slots := 0, locals := 102 })
abbrev mX10_drift : zM := (yX10_drift, cX10_drift, 5, some .int, { frames := 4, cells := 0, slots := 0, locals := 102 })
abbrev mX10_judge : zM := (yX10_judge, cX10_judge, 2, some .int, { frames := 4, cells := 0, slots := 0, locals := 102 })
abbrev mX10_leaf : zM := (yX10_leaf, cX10_leaf, 3, some .int, { frames := 4, cells := 0, slots := 0, locals := 102 })
abbrev mX10_leafAt : zM := (yX10_leafAt, cX10_leafAt, 3, some .int, { frames := 4, cells := 0, slots := 0, locals := 102 })
abbrev mX10_learns : zM := (yX10_learns, cX10_learns, 4, some .int, { frames := 4, cells := 0, slots := 0, locals := 102 })
abbrev mX10_order : zM := (yX10_order, cX10_order, 13, some .int, { frames := 4, cells := 0, slots := 0, locals := 102 })
abbrev mX10_pass : zM := (yX10_pass, cX10_pass, 3, some .int, { frames := 4, cells := 0, slots := 0, locals := 102 })
abbrev mX10_told : zM := (yX10_told, cX10_told, 7, some .int, { frames := 4, cells := 0, slots := 0, locals := 102 })
abbrev mX10_worth : zM := (yX10_worth, cX10_worth, 5, some .int, { frames := 4, cells := 0, slots := 0, locals := 102 })
abbrev mX5_read : zM := (yX5_read, cX5_read, 2, none, { frames := 4, cells := 0, slots := 0, locals := 106 })
abbrev mX8_kindOnOtherLeaf : zM := (yX8_kindOnOtherLeaf, cX8_kindOnOtherLeaf, 2, some .int, { frames := 4, cells := 0, slots := 0, locals := 117 })
abbrev mX8_trialCost : zM := (yX8_trialCost, cX8_trialCost, 1, some .int, { frames := 4, cells := 0, slots := 0, locals := 117 })
abbrev mX8_weigh : zM := (yX8_weigh, cX8_weigh, 3, none, { frames := 4, cells := 0, slots := 0, locals := 117 })
abbrev mX9_drift : zM := (yX9_drift, cX9_drift, 5, some .int, { frames := 4, cells := 0, slots := 0, locals := 117 })
abbrev mX9_judge : zM := (yX9_judge, cX9_judge, 2, some .int, { frames := 4, cells := 0, slots := 0, locals := 117 })
abbrev mX9_leaf : zM := (yX9_leaf, cX9_leaf, 3, some .int, { frames := 4, cells := 0, slots := 0, locals := 117 })
abbrev mX9_leafAt : zM := (yX9_leafAt, cX9_leafAt, 3, some .int, { frames := 4, cells := 0, slots := 0, locals := 117 })
abbrev mX9_pass : zM := (yX9_pass, cX9_pass, 4, some .int, { frames := 4, cells := 0, slots := 0, locals := 117 })
abbrev mX9_toldOfEvening : zM := (yX9_toldOfEvening, cX9_toldOfEvening, 2, some .int, { frames := 4, cells := 0, slots := 0, locals := 117 })
abbrev mX10_house : zM := (yX10_house, cX10_house, 3, some .int, { frames := 5, cells := 0, slots := 0, locals := 109 })
abbrev mX9_house : zM := (yX9_house, cX9_house, 2, some .int, { frames := 5, cells := 0, slots := 0, locals := 127 })
abbrev mX8_allBy : zM := (yX8_allBy, cX8_allBy, 2, some .int, { frames := 5, cells := 0, slots := 0, locals := 137 })
abbrev mX8_quietSaves : zM := (yX8_quietSaves, cX8_quietSaves, 2, some .int, { frames := 5, cells := 0, slots := 0, locals := 137 })
abbrev mX8_spread : zM := (yX8_spread, cX8_spread, 4, some .int, { frames := 5, cells := 0, slots := 0, locals := 137 })
abbrev mX8_windowSaves : zM := (yX8_windowSaves, cX8_windowSaves, 2, some .int, { frames := 5, cells := 0, slots := 0, locals := 137 })
abbrev mX9_learns : zM := (yX9_learns, cX9_learns, 4, some .int, { frames := 5, cells := 0, slots := 0, locals := 138 })
abbrev mX9_told : zM := (yX9_told, cX9_told, 2, some .int, { frames := 5, cells := 0, slots := 0, locals := 138 })
abbrev mX8_bestOrder : zM := (yX8_bestOrder, cX8_bestOrder, 4, some .int, { frames := 5, cells := 0, slots := 0, locals := 139 })
abbrev mX8_bestRules : zM := (yX8_bestRules, cX8_bestRules, 4, some .int, { frames := 5, cells := 0, slots := 0, locals := 139 })
abbrev mX8_findChange : zM := (yX8_findChange, cX8_findChange, 4, none, { frames := 5, cells := 0, slots := 0, locals := 139 })
abbrev mX8_findKick : zM := (yX8_findKick, cX8_findKick, 3, none, { frames := 5, cells := 0, slots := 0, locals := 139 })
abbrev mX9_all : zM := (yX9_all, cX9_all, 2, some .int, { frames := 6, cells := 0, slots := 0, locals := 158 })
abbrev mX9_worth : zM := (yX9_worth, cX9_worth, 3, some .int, { frames := 6, cells := 0, slots := 0, locals := 158 })
abbrev mX9_apart : zM := (yX9_apart, cX9_apart, 3, some .int, { frames := 6, cells := 0, slots := 0, locals := 160 })
abbrev mX9_bestKick : zM := (yX9_bestKick, cX9_bestKick, 3, some .int, { frames := 6, cells := 0, slots := 0, locals := 161 })
abbrev mX9_best : zM := (yX9_best, cX9_best, 2, some .int, { frames := 6, cells := 0, slots := 0, locals := 162 })
abbrev mX9_change : zM := (yX9_change, cX9_change, 4, some .int, { frames := 6, cells := 0, slots := 0, locals := 162 })
abbrev mX9_order : zM := (yX9_order, cX9_order, 3, some .int, { frames := 6, cells := 0, slots := 0, locals := 162 })
abbrev mL_law : zM := (yL_law, cL_law, 4, some .boolean, room_1)
theorem wIniMath : Cond.initialized "java/lang/Math" ∈ zT := zT_mem (i := 13) (by decide +kernel) rfl
theorem wIniSys : Cond.initialized "java/lang/System" ∈ zT := zT_mem (i := 14) (by decide +kernel) rfl
theorem wSt_max : Cond.static Lib.Math.max.name ∈ zT := zT_mem (i := 522) (by decide +kernel) rfl
theorem wCo_max : Cond.code Lib.Math.max.name Lib.Math.max.code 2 (some .int) ∈ zT := zT_mem (i := 523) (by decide +kernel) rfl
theorem wSt_min : Cond.static Lib.Math.min.name ∈ zT := zT_mem (i := 434) (by decide +kernel) rfl
theorem wCo_min : Cond.code Lib.Math.min.name Lib.Math.min.code 2 (some .int) ∈ zT := zT_mem (i := 435) (by decide +kernel) rfl
theorem wNat_copy : Cond.native arraycopyName ∈ zT := zT_mem (i := 458) (by decide +kernel) rfl
theorem wSt_copy : Cond.static arraycopyName ∈ zT := zT_mem (i := 457) (by decide +kernel) rfl
theorem wIn_obj : Cond.instanceMethod Lib.objectInit ∈ zT := zT_mem (i := 21) (by decide +kernel) rfl
theorem wCo_obj : Cond.code Lib.objectInit ⟨#[0xb1]⟩ 1 none ∈ zT := zT_mem (i := 22) (by decide +kernel) rfl
theorem wArr_int : Cond.arrayClass .int ∈ zT := zT_mem (i := 90) (by decide +kernel) rfl
theorem wArr_boolean : Cond.arrayClass .boolean ∈ zT := zT_mem (i := 969) (by decide +kernel) rfl
theorem fX0_27 : zF RX0 27 0 0 := zF.mk (RX0, TX0, 4) 259 rfl rfl (by decide +kernel) rfl
theorem fX0_40 : zF RX0 40 1 6 := zF.mk (RX1, TX1, 7) 71 rfl rfl (by decide +kernel) rfl
theorem fX0_19 : zF RX0 19 0 2 := zF.mk (RX0, TX0, 4) 262 rfl rfl (by decide +kernel) rfl
theorem fX0_61 : zF RX0 61 3 0 := zF.mk (RX3, TX3, 6) 228 rfl rfl (by decide +kernel) rfl
theorem fX0_118 : zF RX0 118 1 5 := zF.mk (RX1, TX1, 7) 66 rfl rfl (by decide +kernel) rfl
theorem fX0_50 : zF RX0 50 4 0 := zF.mk (RX4, TX4, 5) 99 rfl rfl (by decide +kernel) rfl
theorem fX0_121 : zF RX0 121 4 4 := zF.mk (RX4, TX4, 5) 120 rfl rfl (by decide +kernel) rfl
theorem fX0_23 : zF RX0 23 0 3 := zF.mk (RX0, TX0, 4) 265 rfl rfl (by decide +kernel) rfl
theorem fX0_64 : zF RX0 64 3 5 := zF.mk (RX3, TX3, 6) 244 rfl rfl (by decide +kernel) rfl
theorem fX0_153 : zF RX0 153 1 4 := zF.mk (RX1, TX1, 7) 63 rfl rfl (by decide +kernel) rfl
theorem fX0_105 : zF RX0 105 3 4 := zF.mk (RX3, TX3, 6) 241 rfl rfl (by decide +kernel) rfl
theorem fX10_38 : zF RX10 38 10 22 := zF.mk (RX10, TX10, 47) 849 rfl rfl (by decide +kernel) rfl
theorem cX10_234 : Cond.constantLong RX10 234 (1103515245) ∈ zT := zT_mem (i := 1113) (by decide +kernel) rfl
theorem cX10_236 : Cond.constantLong RX10 236 (12345) ∈ zT := zT_mem (i := 1114) (by decide +kernel) rfl
theorem cX10_238 : Cond.constantLong RX10 238 (2147483648) ∈ zT := zT_mem (i := 1115) (by decide +kernel) rfl
theorem cX10_240 : Cond.constant RX10 240 (65536) ∈ zT := zT_mem (i := 1116) (by decide +kernel) rfl
theorem fX10_129 : zF RX10 129 10 7 := zF.mk (RX10, TX10, 47) 834 rfl rfl (by decide +kernel) rfl
theorem fX10_120 : zF RX10 120 10 3 := zF.mk (RX10, TX10, 47) 830 rfl rfl (by decide +kernel) rfl
theorem fX10_13 : zF RX10 13 10 6 := zF.mk (RX10, TX10, 47) 833 rfl rfl (by decide +kernel) rfl
theorem fX10_87 : zF RX10 87 10 40 := zF.mk (RX10, TX10, 47) 867 rfl rfl (by decide +kernel) rfl
theorem fX10_66 : zF RX10 66 10 31 := zF.mk (RX10, TX10, 47) 858 rfl rfl (by decide +kernel) rfl
theorem fX10_69 : zF RX10 69 10 32 := zF.mk (RX10, TX10, 47) 859 rfl rfl (by decide +kernel) rfl
theorem fX10_105 : zF RX10 105 10 17 := zF.mk (RX10, TX10, 47) 844 rfl rfl (by decide +kernel) rfl
theorem fX10_26 : zF RX10 26 10 18 := zF.mk (RX10, TX10, 47) 845 rfl rfl (by decide +kernel) rfl
theorem fX10_96 : zF RX10 96 10 43 := zF.mk (RX10, TX10, 47) 870 rfl rfl (by decide +kernel) rfl
theorem fX10_93 : zF RX10 93 10 42 := zF.mk (RX10, TX10, 47) 869 rfl rfl (by decide +kernel) rfl
theorem fX10_187 : zF RX10 187 10 39 := zF.mk (RX10, TX10, 47) 866 rfl rfl (by decide +kernel) rfl
theorem fX10_63 : zF RX10 63 10 30 := zF.mk (RX10, TX10, 47) 857 rfl rfl (by decide +kernel) rfl
theorem fX10_32 : zF RX10 32 10 20 := zF.mk (RX10, TX10, 47) 847 rfl rfl (by decide +kernel) rfl
theorem fX10_29 : zF RX10 29 10 19 := zF.mk (RX10, TX10, 47) 846 rfl rfl (by decide +kernel) rfl
theorem fX10_75 : zF RX10 75 10 34 := zF.mk (RX10, TX10, 47) 861 rfl rfl (by decide +kernel) rfl
theorem fX10_72 : zF RX10 72 10 33 := zF.mk (RX10, TX10, 47) 860 rfl rfl (by decide +kernel) rfl
theorem fX10_23 : zF RX10 23 10 16 := zF.mk (RX10, TX10, 47) 843 rfl rfl (by decide +kernel) rfl
theorem fX10_181 : zF RX10 181 10 45 := zF.mk (RX10, TX10, 47) 872 rfl rfl (by decide +kernel) rfl
theorem fX3_9 : zF RX3 9 3 0 := zF.mk (RX3, TX3, 6) 227 rfl rfl (by decide +kernel) rfl
theorem fX3_27 : zF RX3 27 3 5 := zF.mk (RX3, TX3, 6) 243 rfl rfl (by decide +kernel) rfl
theorem fX4_21 : zF RX4 21 4 3 := zF.mk (RX4, TX4, 5) 113 rfl rfl (by decide +kernel) rfl
theorem fX4_25 : zF RX4 25 4 4 := zF.mk (RX4, TX4, 5) 118 rfl rfl (by decide +kernel) rfl
theorem fX5_36 : zF RX5 36 5 5 := zF.mk (RX5, TX5, 11) 142 rfl rfl (by decide +kernel) rfl
theorem fX5_39 : zF RX5 39 5 6 := zF.mk (RX5, TX5, 11) 144 rfl rfl (by decide +kernel) rfl
theorem fX5_32 : zF RX5 32 5 4 := zF.mk (RX5, TX5, 11) 140 rfl rfl (by decide +kernel) rfl
theorem fX5_25 : zF RX5 25 5 2 := zF.mk (RX5, TX5, 11) 138 rfl rfl (by decide +kernel) rfl
theorem fX5_42 : zF RX5 42 5 7 := zF.mk (RX5, TX5, 11) 146 rfl rfl (by decide +kernel) rfl
theorem fX6_15 : zF RX6 15 6 1 := zF.mk (RX6, TX6, 4) 291 rfl rfl (by decide +kernel) rfl
theorem fX6_21 : zF RX6 21 6 3 := zF.mk (RX6, TX6, 4) 294 rfl rfl (by decide +kernel) rfl
theorem fX6_33 : zF RX6 33 4 0 := zF.mk (RX4, TX4, 5) 98 rfl rfl (by decide +kernel) rfl
theorem fX6_9 : zF RX6 9 6 0 := zF.mk (RX6, TX6, 4) 289 rfl rfl (by decide +kernel) rfl
theorem gX6_42 : Cond.fieldLink RX6 42 RX6 "ORDERS" "[I" ∈ zT := zT_mem (i := 728) (by decide +kernel) rfl
theorem fX7_9 : zF RX7 9 7 0 := zF.mk (RX7, TX7, 8) 192 rfl rfl (by decide +kernel) rfl
theorem fX7_15 : zF RX7 15 7 1 := zF.mk (RX7, TX7, 8) 193 rfl rfl (by decide +kernel) rfl
theorem fX7_25 : zF RX7 25 7 4 := zF.mk (RX7, TX7, 8) 198 rfl rfl (by decide +kernel) rfl
theorem fX7_28 : zF RX7 28 7 5 := zF.mk (RX7, TX7, 8) 199 rfl rfl (by decide +kernel) rfl
theorem fX7_21 : zF RX7 21 7 3 := zF.mk (RX7, TX7, 8) 197 rfl rfl (by decide +kernel) rfl
theorem fX7_34 : zF RX7 34 7 7 := zF.mk (RX7, TX7, 8) 203 rfl rfl (by decide +kernel) rfl
theorem fX8_32 : zF RX8 32 8 0 := zF.mk (RX8, TX8, 7) 305 rfl rfl (by decide +kernel) rfl
theorem fX8_73 : zF RX8 73 1 6 := zF.mk (RX1, TX1, 7) 74 rfl rfl (by decide +kernel) rfl
theorem fX8_12 : zF RX8 12 8 3 := zF.mk (RX8, TX8, 7) 308 rfl rfl (by decide +kernel) rfl
theorem fX8_57 : zF RX8 57 4 2 := zF.mk (RX4, TX4, 5) 110 rfl rfl (by decide +kernel) rfl
theorem fX8_96 : zF RX8 96 4 0 := zF.mk (RX4, TX4, 5) 102 rfl rfl (by decide +kernel) rfl
theorem fX8_131 : zF RX8 131 1 4 := zF.mk (RX1, TX1, 7) 64 rfl rfl (by decide +kernel) rfl
theorem fX8_134 : zF RX8 134 1 3 := zF.mk (RX1, TX1, 7) 59 rfl rfl (by decide +kernel) rfl
theorem fX8_36 : zF RX8 36 8 1 := zF.mk (RX8, TX8, 7) 306 rfl rfl (by decide +kernel) rfl
theorem fX9_65 : zF RX9 65 9 9 := zF.mk (RX9, TX9, 11) 360 rfl rfl (by decide +kernel) rfl
theorem cX9_186 : Cond.constantLong RX9 186 (1103515245) ∈ zT := zT_mem (i := 609) (by decide +kernel) rfl
theorem cX9_188 : Cond.constantLong RX9 188 (12345) ∈ zT := zT_mem (i := 610) (by decide +kernel) rfl
theorem cX9_190 : Cond.constantLong RX9 190 (2147483648) ∈ zT := zT_mem (i := 611) (by decide +kernel) rfl
theorem cX9_192 : Cond.constantLong RX9 192 (65536) ∈ zT := zT_mem (i := 612) (by decide +kernel) rfl
theorem fX9_69 : zF RX9 69 9 10 := zF.mk (RX9, TX9, 11) 361 rfl rfl (by decide +kernel) rfl
theorem fX9_26 : zF RX9 26 9 2 := zF.mk (RX9, TX9, 11) 353 rfl rfl (by decide +kernel) rfl
theorem fX9_104 : zF RX9 104 4 3 := zF.mk (RX4, TX4, 5) 115 rfl rfl (by decide +kernel) rfl
theorem fX9_19 : zF RX9 19 9 1 := zF.mk (RX9, TX9, 11) 352 rfl rfl (by decide +kernel) rfl
theorem fX9_101 : zF RX9 101 1 6 := zF.mk (RX1, TX1, 7) 72 rfl rfl (by decide +kernel) rfl
theorem cX9_73 : Cond.constant RX9 73 (-1000000002) ∈ zT := zT_mem (i := 389) (by decide +kernel) rfl
theorem fX9_107 : zF RX9 107 4 4 := zF.mk (RX4, TX4, 5) 119 rfl rfl (by decide +kernel) rfl
theorem fX9_61 : zF RX9 61 9 8 := zF.mk (RX9, TX9, 11) 359 rfl rfl (by decide +kernel) rfl
theorem cX9_270 : Cond.constantLong RX9 270 (1000000000) ∈ zT := zT_mem (i := 776) (by decide +kernel) rfl
theorem cX9_272 : Cond.constantLong RX9 272 (10000000) ∈ zT := zT_mem (i := 777) (by decide +kernel) rfl
theorem cX9_274 : Cond.constantLong RX9 274 (1000) ∈ zT := zT_mem (i := 778) (by decide +kernel) rfl
theorem wCo_X3_crash : Cond.code yX3_crash cX3_crash 1 (none) ∈ zT := zT_mem (i := 512) (by decide +kernel) rfl
theorem wIni_X3 : Cond.initialized RX3 ∈ zT := zT_mem (i := 8) (by decide +kernel) rfl
theorem n_X3_crash : zYN mX3_crash 0 := ⟨by decide +kernel, by decide +kernel, by decide +kernel⟩
theorem wIn_X3_crash : Cond.instanceMethod yX3_crash ∈ zT := zT_mem (i := 510) (by decide +kernel) rfl
theorem wSe_X3_crash : Cond.selects RX3 yX3_crash yX3_crash ∈ zT := zT_mem (i := 511) (by decide +kernel) rfl
theorem wlX0_150 : Cond.methodLink RX0 150 yX3_crash ∈ zT := zT_mem (i := 509) (by decide +kernel) rfl
theorem kX0_150 : zKV RX0 150 mX3_crash 0 := ⟨wlX0_150, wIn_X3_crash, wSe_X3_crash, wIni_X3, wCo_X3_crash, n_X3_crash⟩
theorem fX9_10 : zF RX9 10 9 0 := zF.mk (RX9, TX9, 11) 351 rfl rfl (by decide +kernel) rfl
theorem fX9_74 : zF RX9 74 5 4 := zF.mk (RX5, TX5, 11) 141 rfl rfl (by decide +kernel) rfl
theorem cX9_77 : Cond.constant RX9 77 (-1000000004) ∈ zT := zT_mem (i := 390) (by decide +kernel) rfl
theorem wCo_X5_take : Cond.code yX5_take cX5_take 2 (some .int) ∈ zT := zT_mem (i := 394) (by decide +kernel) rfl
theorem wIni_X5 : Cond.initialized RX5 ∈ zT := zT_mem (i := 2) (by decide +kernel) rfl
theorem n_X5_take : zYN mX5_take 1 := ⟨by decide +kernel, by decide +kernel, by decide +kernel⟩
theorem wIn_X5_take : Cond.instanceMethod yX5_take ∈ zT := zT_mem (i := 392) (by decide +kernel) rfl
theorem wSe_X5_take : Cond.selects RX5 yX5_take yX5_take ∈ zT := zT_mem (i := 393) (by decide +kernel) rfl
theorem wlX9_78 : Cond.methodLink RX9 78 yX5_take ∈ zT := zT_mem (i := 391) (by decide +kernel) rfl
theorem kX9_78 : zKV RX9 78 mX5_take 1 := ⟨wlX9_78, wIn_X5_take, wSe_X5_take, wIni_X5, wCo_X5_take, n_X5_take⟩
theorem wCo_X9_noWaiter : Cond.code yX9_noWaiter cX9_noWaiter 2 (some .boolean) ∈ zT := zT_mem (i := 575) (by decide +kernel) rfl
theorem wIni_X9 : Cond.initialized RX9 ∈ zT := zT_mem (i := 1) (by decide +kernel) rfl
theorem n_X9_noWaiter : zYN mX9_noWaiter 1 := ⟨by decide +kernel, by decide +kernel, by decide +kernel⟩
theorem wIn_X9_noWaiter : Cond.instanceMethod yX9_noWaiter ∈ zT := zT_mem (i := 574) (by decide +kernel) rfl
theorem wSe_X9_noWaiter : Cond.selects RX9 yX9_noWaiter yX9_noWaiter ∈ zT := zT_memS (i := 17) (by decide +kernel) rfl
theorem wlX9_155 : Cond.methodLink RX9 155 yX9_noWaiter ∈ zT := zT_mem (i := 572) (by decide +kernel) rfl
theorem kX9_155 : zKV RX9 155 mX9_noWaiter 1 := ⟨wlX9_155, wIn_X9_noWaiter, wSe_X9_noWaiter, wIni_X9, wCo_X9_noWaiter, n_X9_noWaiter⟩
theorem cX9_136 : Cond.constant RX9 136 (-1000000001) ∈ zT := zT_mem (i := 567) (by decide +kernel) rfl
theorem fX9_158 : zF RX9 158 1 2 := zF.mk (RX1, TX1, 7) 54 rfl rfl (by decide +kernel) rfl
theorem fX9_161 : zF RX9 161 4 0 := zF.mk (RX4, TX4, 5) 101 rfl rfl (by decide +kernel) rfl
theorem fX9_164 : zF RX9 164 1 3 := zF.mk (RX1, TX1, 7) 58 rfl rfl (by decide +kernel) rfl
theorem fX9_167 : zF RX9 167 1 4 := zF.mk (RX1, TX1, 7) 62 rfl rfl (by decide +kernel) rfl
theorem fX9_170 : zF RX9 170 4 1 := zF.mk (RX4, TX4, 5) 107 rfl rfl (by decide +kernel) rfl
theorem fX9_172 : zF RX9 172 4 2 := zF.mk (RX4, TX4, 5) 112 rfl rfl (by decide +kernel) rfl
theorem fX9_175 : zF RX9 175 1 5 := zF.mk (RX1, TX1, 7) 68 rfl rfl (by decide +kernel) rfl
theorem fX9_54 : zF RX9 54 9 6 := zF.mk (RX9, TX9, 11) 357 rfl rfl (by decide +kernel) rfl
theorem fX9_58 : zF RX9 58 9 7 := zF.mk (RX9, TX9, 11) 358 rfl rfl (by decide +kernel) rfl
theorem fX0_11 : zF RX0 11 0 1 := zF.mk (RX0, TX0, 4) 260 rfl rfl (by decide +kernel) rfl
theorem wCo_X7_busyFor : Cond.code yX7_busyFor cX7_busyFor 3 (some .boolean) ∈ zT := zT_mem (i := 500) (by decide +kernel) rfl
theorem wIni_X7 : Cond.initialized RX7 ∈ zT := zT_mem (i := 7) (by decide +kernel) rfl
theorem n_X7_busyFor : zYN mX7_busyFor 2 := ⟨by decide +kernel, by decide +kernel, by decide +kernel⟩
theorem wIn_X7_busyFor : Cond.instanceMethod yX7_busyFor ∈ zT := zT_mem (i := 498) (by decide +kernel) rfl
theorem wSe_X7_busyFor : Cond.selects RX7 yX7_busyFor yX7_busyFor ∈ zT := zT_mem (i := 499) (by decide +kernel) rfl
theorem wlX0_80 : Cond.methodLink RX0 80 yX7_busyFor ∈ zT := zT_mem (i := 497) (by decide +kernel) rfl
theorem kX0_80 : zKV RX0 80 mX7_busyFor 2 := ⟨wlX0_80, wIn_X7_busyFor, wSe_X7_busyFor, wIni_X7, wCo_X7_busyFor, n_X7_busyFor⟩
theorem wCo_X0_losses : Cond.code yX0_losses cX0_losses 3 (some .int) ∈ zT := zT_mem (i := 545) (by decide +kernel) rfl
theorem wIni_X0 : Cond.initialized RX0 ∈ zT := zT_mem (i := 6) (by decide +kernel) rfl
theorem n_X0_losses : zYN mX0_losses 0 := ⟨by decide +kernel, by decide +kernel, by decide +kernel⟩
theorem wIn_X0_losses : Cond.instanceMethod yX0_losses ∈ zT := zT_mem (i := 543) (by decide +kernel) rfl
theorem wSe_X0_losses : Cond.selects RX0 yX0_losses yX0_losses ∈ zT := zT_mem (i := 544) (by decide +kernel) rfl
theorem wlX0_156 : Cond.methodLink RX0 156 yX0_losses ∈ zT := zT_mem (i := 550) (by decide +kernel) rfl
theorem kX0_156 : zKV RX0 156 mX0_losses 0 := ⟨wlX0_156, wIn_X0_losses, wSe_X0_losses, wIni_X0, wCo_X0_losses, n_X0_losses⟩
theorem wCo_X0_seconds : Cond.code yX0_seconds cX0_seconds 3 (some .int) ∈ zT := zT_mem (i := 541) (by decide +kernel) rfl
theorem n_X0_seconds : zYN mX0_seconds 0 := ⟨by decide +kernel, by decide +kernel, by decide +kernel⟩
theorem wIn_X0_seconds : Cond.instanceMethod yX0_seconds ∈ zT := zT_mem (i := 539) (by decide +kernel) rfl
theorem wSe_X0_seconds : Cond.selects RX0 yX0_seconds yX0_seconds ∈ zT := zT_mem (i := 540) (by decide +kernel) rfl
theorem wlX0_160 : Cond.methodLink RX0 160 yX0_seconds ∈ zT := zT_mem (i := 551) (by decide +kernel) rfl
theorem kX0_160 : zKV RX0 160 mX0_seconds 0 := ⟨wlX0_160, wIn_X0_seconds, wSe_X0_seconds, wIni_X0, wCo_X0_seconds, n_X0_seconds⟩
theorem wCo_X10_in : Cond.code yX10_in cX10_in 3 (some .boolean) ∈ zT := zT_mem (i := 976) (by decide +kernel) rfl
theorem wIni_X10 : Cond.initialized RX10 ∈ zT := zT_mem (i := 12) (by decide +kernel) rfl
theorem n_X10_in : zYN mX10_in 3 := ⟨by decide +kernel, by decide +kernel, by decide +kernel⟩
theorem wSt_X10_in : Cond.static yX10_in ∈ zT := zT_mem (i := 975) (by decide +kernel) rfl
theorem wlX10_108 : Cond.methodLink RX10 108 yX10_in ∈ zT := zT_mem (i := 974) (by decide +kernel) rfl
theorem kX10_108 : zKS RX10 108 mX10_in 3 := ⟨wlX10_108, wSt_X10_in, wIni_X10, wCo_X10_in, n_X10_in⟩
theorem cX10_112 : Cond.constant RX10 112 (-1000000002) ∈ zT := zT_mem (i := 977) (by decide +kernel) rfl
theorem fX10_113 : zF RX10 113 10 0 := zF.mk (RX10, TX10, 47) 827 rfl rfl (by decide +kernel) rfl
theorem cX10_116 : Cond.constant RX10 116 (-1000000004) ∈ zT := zT_mem (i := 978) (by decide +kernel) rfl
theorem fX10_7 : zF RX10 7 10 1 := zF.mk (RX10, TX10, 47) 828 rfl rfl (by decide +kernel) rfl
theorem cX10_227 : Cond.constant RX10 227 (-1000000001) ∈ zT := zT_mem (i := 1071) (by decide +kernel) rfl
theorem fX10_44 : zF RX10 44 10 24 := zF.mk (RX10, TX10, 47) 851 rfl rfl (by decide +kernel) rfl
theorem cX10_241 : Cond.constant RX10 241 (-1000000003) ∈ zT := zT_mem (i := 1108) (by decide +kernel) rfl
theorem fX10_41 : zF RX10 41 10 23 := zF.mk (RX10, TX10, 47) 850 rfl rfl (by decide +kernel) rfl
theorem fX10_117 : zF RX10 117 10 2 := zF.mk (RX10, TX10, 47) 829 rfl rfl (by decide +kernel) rfl
theorem fX10_123 : zF RX10 123 10 5 := zF.mk (RX10, TX10, 47) 832 rfl rfl (by decide +kernel) rfl
theorem fX10_126 : zF RX10 126 10 4 := zF.mk (RX10, TX10, 47) 831 rfl rfl (by decide +kernel) rfl
theorem cX10_258 : Cond.constantLong RX10 258 (1000000000) ∈ zT := zT_mem (i := 1181) (by decide +kernel) rfl
theorem cX10_260 : Cond.constantLong RX10 260 (10000000) ∈ zT := zT_mem (i := 1182) (by decide +kernel) rfl
theorem cX10_262 : Cond.constantLong RX10 262 (1000) ∈ zT := zT_mem (i := 1183) (by decide +kernel) rfl
theorem wCo_X5_skipBlanks : Cond.code yX5_skipBlanks cX5_skipBlanks 2 (none) ∈ zT := zT_mem (i := 412) (by decide +kernel) rfl
theorem n_X5_skipBlanks : zYN mX5_skipBlanks 0 := ⟨by decide +kernel, by decide +kernel, by decide +kernel⟩
theorem wIn_X5_skipBlanks : Cond.instanceMethod yX5_skipBlanks ∈ zT := zT_mem (i := 411) (by decide +kernel) rfl
theorem wSe_X5_skipBlanks : Cond.selects RX5 yX5_skipBlanks yX5_skipBlanks ∈ zT := zT_memS (i := 0) (by decide +kernel) rfl
theorem wlX5_65 : Cond.methodLink RX5 65 yX5_skipBlanks ∈ zT := zT_mem (i := 409) (by decide +kernel) rfl
theorem kX5_65 : zKV RX5 65 mX5_skipBlanks 0 := ⟨wlX5_65, wIn_X5_skipBlanks, wSe_X5_skipBlanks, wIni_X5, wCo_X5_skipBlanks, n_X5_skipBlanks⟩
theorem wCo_X5_fail : Cond.code yX5_fail cX5_fail 3 (none) ∈ zT := zT_mem (i := 432) (by decide +kernel) rfl
theorem n_X5_fail : zYN mX5_fail 2 := ⟨by decide +kernel, by decide +kernel, by decide +kernel⟩
theorem wIn_X5_fail : Cond.instanceMethod yX5_fail ∈ zT := zT_mem (i := 431) (by decide +kernel) rfl
theorem wSe_X5_fail : Cond.selects RX5 yX5_fail yX5_fail ∈ zT := zT_memS (i := 5) (by decide +kernel) rfl
theorem wlX5_84 : Cond.methodLink RX5 84 yX5_fail ∈ zT := zT_mem (i := 429) (by decide +kernel) rfl
theorem kX5_84 : zKV RX5 84 mX5_fail 2 := ⟨wlX5_84, wIn_X5_fail, wSe_X5_fail, wIni_X5, wCo_X5_fail, n_X5_fail⟩
theorem fX6_25 : zF RX6 25 1 6 := zF.mk (RX1, TX1, 7) 70 rfl rfl (by decide +kernel) rfl
theorem fX6_30 : zF RX6 30 1 2 := zF.mk (RX1, TX1, 7) 51 rfl rfl (by decide +kernel) rfl
theorem fX6_18 : zF RX6 18 6 2 := zF.mk (RX6, TX6, 4) 293 rfl rfl (by decide +kernel) rfl
theorem wCo_X6_insertTenth : Cond.code yX6_insertTenth cX6_insertTenth 3 (none) ∈ zT := zT_mem (i := 722) (by decide +kernel) rfl
theorem wIni_X6 : Cond.initialized RX6 ∈ zT := zT_mem (i := 10) (by decide +kernel) rfl
theorem n_X6_insertTenth : zYN mX6_insertTenth 1 := ⟨by decide +kernel, by decide +kernel, by decide +kernel⟩
theorem wIn_X6_insertTenth : Cond.instanceMethod yX6_insertTenth ∈ zT := zT_mem (i := 721) (by decide +kernel) rfl
theorem wSe_X6_insertTenth : Cond.selects RX6 yX6_insertTenth yX6_insertTenth ∈ zT := zT_memS (i := 26) (by decide +kernel) rfl
theorem wlX6_38 : Cond.methodLink RX6 38 yX6_insertTenth ∈ zT := zT_mem (i := 719) (by decide +kernel) rfl
theorem kX6_38 : zKV RX6 38 mX6_insertTenth 1 := ⟨wlX6_38, wIn_X6_insertTenth, wSe_X6_insertTenth, wIni_X6, wCo_X6_insertTenth, n_X6_insertTenth⟩
theorem wlX7_52 : Cond.methodLink RX7 52 yX7_busyFor ∈ zT := zT_mem (i := 625) (by decide +kernel) rfl
theorem kX7_52 : zKV RX7 52 mX7_busyFor 2 := ⟨wlX7_52, wIn_X7_busyFor, wSe_X7_busyFor, wIni_X7, wCo_X7_busyFor, n_X7_busyFor⟩
theorem wCo_X7_openAt : Cond.code yX7_openAt cX7_openAt 2 (some .boolean) ∈ zT := zT_mem (i := 520) (by decide +kernel) rfl
theorem n_X7_openAt : zYN mX7_openAt 1 := ⟨by decide +kernel, by decide +kernel, by decide +kernel⟩
theorem wIn_X7_openAt : Cond.instanceMethod yX7_openAt ∈ zT := zT_mem (i := 518) (by decide +kernel) rfl
theorem wSe_X7_openAt : Cond.selects RX7 yX7_openAt yX7_openAt ∈ zT := zT_mem (i := 519) (by decide +kernel) rfl
theorem wlX7_56 : Cond.methodLink RX7 56 yX7_openAt ∈ zT := zT_mem (i := 626) (by decide +kernel) rfl
theorem kX7_56 : zKV RX7 56 mX7_openAt 1 := ⟨wlX7_56, wIn_X7_openAt, wSe_X7_openAt, wIni_X7, wCo_X7_openAt, n_X7_openAt⟩
theorem wCo_X7_comesBackAt : Cond.code yX7_comesBackAt cX7_comesBackAt 2 (some .boolean) ∈ zT := zT_mem (i := 527) (by decide +kernel) rfl
theorem n_X7_comesBackAt : zYN mX7_comesBackAt 1 := ⟨by decide +kernel, by decide +kernel, by decide +kernel⟩
theorem wIn_X7_comesBackAt : Cond.instanceMethod yX7_comesBackAt ∈ zT := zT_mem (i := 525) (by decide +kernel) rfl
theorem wSe_X7_comesBackAt : Cond.selects RX7 yX7_comesBackAt yX7_comesBackAt ∈ zT := zT_mem (i := 526) (by decide +kernel) rfl
theorem wlX7_60 : Cond.methodLink RX7 60 yX7_comesBackAt ∈ zT := zT_mem (i := 627) (by decide +kernel) rfl
theorem kX7_60 : zKV RX7 60 mX7_comesBackAt 1 := ⟨wlX7_60, wIn_X7_comesBackAt, wSe_X7_comesBackAt, wIni_X7, wCo_X7_comesBackAt, n_X7_comesBackAt⟩
theorem wCo_X10_becomes : Cond.code yX10_becomes cX10_becomes 4 (some .int) ∈ zT := zT_mem (i := 1087) (by decide +kernel) rfl
theorem n_X10_becomes : zYN mX10_becomes 2 := ⟨by decide +kernel, by decide +kernel, by decide +kernel⟩
theorem wIn_X10_becomes : Cond.instanceMethod yX10_becomes ∈ zT := zT_mem (i := 1086) (by decide +kernel) rfl
theorem wSe_X10_becomes : Cond.selects RX10 yX10_becomes yX10_becomes ∈ zT := zT_memS (i := 49) (by decide +kernel) rfl
theorem wlX10_231 : Cond.methodLink RX10 231 yX10_becomes ∈ zT := zT_mem (i := 1084) (by decide +kernel) rfl
theorem kX10_231 : zKV RX10 231 mX10_becomes 2 := ⟨wlX10_231, wIn_X10_becomes, wSe_X10_becomes, wIni_X10, wCo_X10_becomes, n_X10_becomes⟩
theorem wCo_X10_isBusy : Cond.code yX10_isBusy cX10_isBusy 4 (some .boolean) ∈ zT := zT_mem (i := 1042) (by decide +kernel) rfl
theorem n_X10_isBusy : zYN mX10_isBusy 3 := ⟨by decide +kernel, by decide +kernel, by decide +kernel⟩
theorem wIn_X10_isBusy : Cond.instanceMethod yX10_isBusy ∈ zT := zT_mem (i := 1041) (by decide +kernel) rfl
theorem wSe_X10_isBusy : Cond.selects RX10 yX10_isBusy yX10_isBusy ∈ zT := zT_memS (i := 41) (by decide +kernel) rfl
theorem wlX10_184 : Cond.methodLink RX10 184 yX10_isBusy ∈ zT := zT_mem (i := 1039) (by decide +kernel) rfl
theorem kX10_184 : zKV RX10 184 mX10_isBusy 3 := ⟨wlX10_184, wIn_X10_isBusy, wSe_X10_isBusy, wIni_X10, wCo_X10_isBusy, n_X10_isBusy⟩
theorem fX1_9 : zF RX1 9 1 0 := zF.mk (RX1, TX1, 7) 42 rfl rfl (by decide +kernel) rfl
theorem wCo_J7_fill_53178 : Cond.code yJ7_fill_53178 cJ7_fill_53178 4 (none) ∈ zT := zT_mem (i := 41) (by decide +kernel) rfl
theorem wIni_J7 : Cond.initialized RJ7 ∈ zT := zT_mem (i := 4) (by decide +kernel) rfl
theorem n_J7_fill_53178 : zYN mJ7_fill_53178 2 := ⟨by decide +kernel, by decide +kernel, by decide +kernel⟩
theorem wSt_J7_fill_53178 : Cond.static yJ7_fill_53178 ∈ zT := zT_mem (i := 40) (by decide +kernel) rfl
theorem wlX1_37 : Cond.methodLink RX1 37 yJ7_fill_53178 ∈ zT := zT_mem (i := 39) (by decide +kernel) rfl
theorem kX1_37 : zKS RX1 37 mJ7_fill_53178 2 := ⟨wlX1_37, wSt_J7_fill_53178, wIni_J7, wCo_J7_fill_53178, n_J7_fill_53178⟩
theorem fX1_15 : zF RX1 15 1 1 := zF.mk (RX1, TX1, 7) 46 rfl rfl (by decide +kernel) rfl
theorem fX1_30 : zF RX1 30 1 6 := zF.mk (RX1, TX1, 7) 69 rfl rfl (by decide +kernel) rfl
theorem wlX7_37 : Cond.methodLink RX7 37 yJ7_fill_53178 ∈ zT := zT_mem (i := 484) (by decide +kernel) rfl
theorem kX7_37 : zKS RX7 37 mJ7_fill_53178 2 := ⟨wlX7_37, wSt_J7_fill_53178, wIni_J7, wCo_J7_fill_53178, n_J7_fill_53178⟩
theorem fX7_18 : zF RX7 18 7 2 := zF.mk (RX7, TX7, 8) 195 rfl rfl (by decide +kernel) rfl
theorem fX7_31 : zF RX7 31 7 6 := zF.mk (RX7, TX7, 8) 200 rfl rfl (by decide +kernel) rfl
theorem wCo_X8_lossOf : Cond.code yX8_lossOf cX8_lossOf 5 (some .int) ∈ zT := zT_mem (i := 763) (by decide +kernel) rfl
theorem wIni_X8 : Cond.initialized RX8 ∈ zT := zT_mem (i := 9) (by decide +kernel) rfl
theorem n_X8_lossOf : zYN mX8_lossOf 4 := ⟨by decide +kernel, by decide +kernel, by decide +kernel⟩
theorem wIn_X8_lossOf : Cond.instanceMethod yX8_lossOf ∈ zT := zT_mem (i := 762) (by decide +kernel) rfl
theorem wSe_X8_lossOf : Cond.selects RX8 yX8_lossOf yX8_lossOf ∈ zT := zT_memS (i := 28) (by decide +kernel) rfl
theorem wlX8_127 : Cond.methodLink RX8 127 yX8_lossOf ∈ zT := zT_mem (i := 760) (by decide +kernel) rfl
theorem kX8_127 : zKV RX8 127 mX8_lossOf 4 := ⟨wlX8_127, wIn_X8_lossOf, wSe_X8_lossOf, wIni_X8, wCo_X8_lossOf, n_X8_lossOf⟩
theorem fX10_84 : zF RX10 84 10 37 := zF.mk (RX10, TX10, 47) 864 rfl rfl (by decide +kernel) rfl
theorem fX10_48 : zF RX10 48 10 25 := zF.mk (RX10, TX10, 47) 852 rfl rfl (by decide +kernel) rfl
theorem wCo_X10_lose : Cond.code yX10_lose cX10_lose 2 (none) ∈ zT := zT_mem (i := 1054) (by decide +kernel) rfl
theorem n_X10_lose : zYN mX10_lose 1 := ⟨by decide +kernel, by decide +kernel, by decide +kernel⟩
theorem wIn_X10_lose : Cond.instanceMethod yX10_lose ∈ zT := zT_mem (i := 1053) (by decide +kernel) rfl
theorem wSe_X10_lose : Cond.selects RX10 yX10_lose yX10_lose ∈ zT := zT_memS (i := 44) (by decide +kernel) rfl
theorem wlX10_190 : Cond.methodLink RX10 190 yX10_lose ∈ zT := zT_mem (i := 1051) (by decide +kernel) rfl
theorem kX10_190 : zKV RX10 190 mX10_lose 1 := ⟨wlX10_190, wIn_X10_lose, wSe_X10_lose, wIni_X10, wCo_X10_lose, n_X10_lose⟩
theorem wCo_X10_widen : Cond.code yX10_widen cX10_widen 6 (none) ∈ zT := zT_mem (i := 1058) (by decide +kernel) rfl
theorem n_X10_widen : zYN mX10_widen 4 := ⟨by decide +kernel, by decide +kernel, by decide +kernel⟩
theorem wIn_X10_widen : Cond.instanceMethod yX10_widen ∈ zT := zT_mem (i := 1057) (by decide +kernel) rfl
theorem wSe_X10_widen : Cond.selects RX10 yX10_widen yX10_widen ∈ zT := zT_memS (i := 45) (by decide +kernel) rfl
theorem wlX10_194 : Cond.methodLink RX10 194 yX10_widen ∈ zT := zT_mem (i := 1055) (by decide +kernel) rfl
theorem kX10_194 : zKV RX10 194 mX10_widen 4 := ⟨wlX10_194, wIn_X10_widen, wSe_X10_widen, wIni_X10, wCo_X10_widen, n_X10_widen⟩
theorem fX10_51 : zF RX10 51 10 26 := zF.mk (RX10, TX10, 47) 853 rfl rfl (by decide +kernel) rfl
theorem fX10_54 : zF RX10 54 10 27 := zF.mk (RX10, TX10, 47) 854 rfl rfl (by decide +kernel) rfl
theorem wCo_X10_swing : Cond.code yX10_swing cX10_swing 4 (some .int) ∈ zT := zT_mem (i := 1050) (by decide +kernel) rfl
theorem n_X10_swing : zYN mX10_swing 2 := ⟨by decide +kernel, by decide +kernel, by decide +kernel⟩
theorem wIn_X10_swing : Cond.instanceMethod yX10_swing ∈ zT := zT_mem (i := 1049) (by decide +kernel) rfl
theorem wSe_X10_swing : Cond.selects RX10 yX10_swing yX10_swing ∈ zT := zT_memS (i := 43) (by decide +kernel) rfl
theorem wlX10_198 : Cond.methodLink RX10 198 yX10_swing ∈ zT := zT_mem (i := 1047) (by decide +kernel) rfl
theorem kX10_198 : zKV RX10 198 mX10_swing 2 := ⟨wlX10_198, wIn_X10_swing, wSe_X10_swing, wIni_X10, wCo_X10_swing, n_X10_swing⟩
theorem fX10_81 : zF RX10 81 10 36 := zF.mk (RX10, TX10, 47) 863 rfl rfl (by decide +kernel) rfl
theorem wCo_X9_commonDivisor : Cond.code yX9_commonDivisor cX9_commonDivisor 6 (some .int) ∈ zT := zT_mem (i := 785) (by decide +kernel) rfl
theorem n_X9_commonDivisor : zYN mX9_commonDivisor 2 := ⟨by decide +kernel, by decide +kernel, by decide +kernel⟩
theorem wSt_X9_commonDivisor : Cond.static yX9_commonDivisor ∈ zT := zT_mem (i := 784) (by decide +kernel) rfl
theorem wlX9_276 : Cond.methodLink RX9 276 yX9_commonDivisor ∈ zT := zT_mem (i := 783) (by decide +kernel) rfl
theorem kX9_276 : zKS RX9 276 mX9_commonDivisor 2 := ⟨wlX9_276, wSt_X9_commonDivisor, wIni_X9, wCo_X9_commonDivisor, n_X9_commonDivisor⟩
theorem cX9_182 : Cond.constant RX9 182 (-1000000003) ∈ zT := zT_mem (i := 604) (by decide +kernel) rfl
theorem fX0_111 : zF RX0 111 3 2 := zF.mk (RX3, TX3, 6) 235 rfl rfl (by decide +kernel) rfl
theorem kX0_128 : Cond.methodLink RX0 128 Lib.Math.max.name ∈ zT := zT_mem (i := 521) (by decide +kernel) rfl
theorem fX0_74 : zF RX0 74 3 3 := zF.mk (RX3, TX3, 6) 238 rfl rfl (by decide +kernel) rfl
theorem fX0_55 : zF RX0 55 1 2 := zF.mk (RX1, TX1, 7) 52 rfl rfl (by decide +kernel) rfl
theorem wlX0_124 : Cond.methodLink RX0 124 yX7_openAt ∈ zT := zT_mem (i := 517) (by decide +kernel) rfl
theorem kX0_124 : zKV RX0 124 mX7_openAt 1 := ⟨wlX0_124, wIn_X7_openAt, wSe_X7_openAt, wIni_X7, wCo_X7_openAt, n_X7_openAt⟩
theorem wlX0_134 : Cond.methodLink RX0 134 yX7_comesBackAt ∈ zT := zT_mem (i := 524) (by decide +kernel) rfl
theorem kX0_134 : zKV RX0 134 mX7_comesBackAt 1 := ⟨wlX0_134, wIn_X7_comesBackAt, wSe_X7_comesBackAt, wIni_X7, wCo_X7_comesBackAt, n_X7_comesBackAt⟩
theorem fX0_137 : zF RX0 137 4 1 := zF.mk (RX4, TX4, 5) 105 rfl rfl (by decide +kernel) rfl
theorem fX0_140 : zF RX0 140 1 0 := zF.mk (RX1, TX1, 7) 45 rfl rfl (by decide +kernel) rfl
theorem fX0_143 : zF RX0 143 1 1 := zF.mk (RX1, TX1, 7) 49 rfl rfl (by decide +kernel) rfl
theorem wCo_X7_takeKick : Cond.code yX7_takeKick cX7_takeKick 4 (none) ∈ zT := zT_mem (i := 531) (by decide +kernel) rfl
theorem n_X7_takeKick : zYN mX7_takeKick 3 := ⟨by decide +kernel, by decide +kernel, by decide +kernel⟩
theorem wIn_X7_takeKick : Cond.instanceMethod yX7_takeKick ∈ zT := zT_mem (i := 529) (by decide +kernel) rfl
theorem wSe_X7_takeKick : Cond.selects RX7 yX7_takeKick yX7_takeKick ∈ zT := zT_mem (i := 530) (by decide +kernel) rfl
theorem wlX0_146 : Cond.methodLink RX0 146 yX7_takeKick ∈ zT := zT_mem (i := 528) (by decide +kernel) rfl
theorem kX0_146 : zKV RX0 146 mX7_takeKick 3 := ⟨wlX0_146, wIn_X7_takeKick, wSe_X7_takeKick, wIni_X7, wCo_X7_takeKick, n_X7_takeKick⟩
theorem kX10_1 : Cond.methodLink RX10 1 Lib.objectInit ∈ zT := zT_mem (i := 826) (by decide +kernel) rfl
theorem fX10_17 : zF RX10 17 10 9 := zF.mk (RX10, TX10, 47) 836 rfl rfl (by decide +kernel) rfl
theorem fX10_20 : zF RX10 20 10 10 := zF.mk (RX10, TX10, 47) 837 rfl rfl (by decide +kernel) rfl
theorem fX10_35 : zF RX10 35 10 21 := zF.mk (RX10, TX10, 47) 848 rfl rfl (by decide +kernel) rfl
theorem fX10_57 : zF RX10 57 10 28 := zF.mk (RX10, TX10, 47) 855 rfl rfl (by decide +kernel) rfl
theorem fX10_60 : zF RX10 60 10 29 := zF.mk (RX10, TX10, 47) 856 rfl rfl (by decide +kernel) rfl
theorem fX10_78 : zF RX10 78 10 35 := zF.mk (RX10, TX10, 47) 862 rfl rfl (by decide +kernel) rfl
theorem fX10_90 : zF RX10 90 10 41 := zF.mk (RX10, TX10, 47) 868 rfl rfl (by decide +kernel) rfl
theorem fX10_99 : zF RX10 99 10 44 := zF.mk (RX10, TX10, 47) 871 rfl rfl (by decide +kernel) rfl
theorem fX10_102 : zF RX10 102 10 46 := zF.mk (RX10, TX10, 47) 873 rfl rfl (by decide +kernel) rfl
theorem kX1_43 : Cond.methodLink RX1 43 arraycopyName ∈ zT := zT_mem (i := 456) (by decide +kernel) rfl
theorem fX1_18 : zF RX1 18 1 2 := zF.mk (RX1, TX1, 7) 50 rfl rfl (by decide +kernel) rfl
theorem fX1_21 : zF RX1 21 1 3 := zF.mk (RX1, TX1, 7) 55 rfl rfl (by decide +kernel) rfl
theorem fX1_24 : zF RX1 24 1 4 := zF.mk (RX1, TX1, 7) 60 rfl rfl (by decide +kernel) rfl
theorem fX1_27 : zF RX1 27 1 5 := zF.mk (RX1, TX1, 7) 65 rfl rfl (by decide +kernel) rfl
theorem kX3_3 : Cond.methodLink RX3 3 Lib.objectInit ∈ zT := zT_mem (i := 226) (by decide +kernel) rfl
theorem fX3_15 : zF RX3 15 3 1 := zF.mk (RX3, TX3, 6) 231 rfl rfl (by decide +kernel) rfl
theorem fX3_18 : zF RX3 18 3 2 := zF.mk (RX3, TX3, 6) 234 rfl rfl (by decide +kernel) rfl
theorem fX3_21 : zF RX3 21 3 3 := zF.mk (RX3, TX3, 6) 237 rfl rfl (by decide +kernel) rfl
theorem fX3_24 : zF RX3 24 3 4 := zF.mk (RX3, TX3, 6) 240 rfl rfl (by decide +kernel) rfl
theorem fX4_9 : zF RX4 9 4 0 := zF.mk (RX4, TX4, 5) 97 rfl rfl (by decide +kernel) rfl
theorem kX4_28 : Cond.methodLink RX4 28 arraycopyName ∈ zT := zT_mem (i := 463) (by decide +kernel) rfl
theorem fX4_15 : zF RX4 15 4 1 := zF.mk (RX4, TX4, 5) 103 rfl rfl (by decide +kernel) rfl
theorem fX4_18 : zF RX4 18 4 2 := zF.mk (RX4, TX4, 5) 108 rfl rfl (by decide +kernel) rfl
theorem kX4_3 : Cond.methodLink RX4 3 Lib.objectInit ∈ zT := zT_mem (i := 96) (by decide +kernel) rfl
theorem wCo_X5_figureAt : Cond.code yX5_figureAt cX5_figureAt 2 (some .boolean) ∈ zT := zT_mem (i := 428) (by decide +kernel) rfl
theorem n_X5_figureAt : zYN mX5_figureAt 1 := ⟨by decide +kernel, by decide +kernel, by decide +kernel⟩
theorem wIn_X5_figureAt : Cond.instanceMethod yX5_figureAt ∈ zT := zT_mem (i := 427) (by decide +kernel) rfl
theorem wSe_X5_figureAt : Cond.selects RX5 yX5_figureAt yX5_figureAt ∈ zT := zT_memS (i := 4) (by decide +kernel) rfl
theorem wlX5_131 : Cond.methodLink RX5 131 yX5_figureAt ∈ zT := zT_mem (i := 425) (by decide +kernel) rfl
theorem kX5_131 : zKV RX5 131 mX5_figureAt 1 := ⟨wlX5_131, wIn_X5_figureAt, wSe_X5_figureAt, wIni_X5, wCo_X5_figureAt, n_X5_figureAt⟩
theorem fX5_45 : zF RX5 45 5 8 := zF.mk (RX5, TX5, 11) 147 rfl rfl (by decide +kernel) rfl
theorem kX5_135 : Cond.methodLink RX5 135 Lib.Math.min.name ∈ zT := zT_mem (i := 433) (by decide +kernel) rfl
theorem kX6_3 : Cond.methodLink RX6 3 Lib.objectInit ∈ zT := zT_mem (i := 288) (by decide +kernel) rfl
theorem kX6_45 : Cond.methodLink RX6 45 arraycopyName ∈ zT := zT_mem (i := 727) (by decide +kernel) rfl
theorem kX6_51 : Cond.methodLink RX6 51 Lib.Math.max.name ∈ zT := zT_mem (i := 730) (by decide +kernel) rfl
theorem kX6_57 : Cond.methodLink RX6 57 Lib.Math.min.name ∈ zT := zT_mem (i := 731) (by decide +kernel) rfl
theorem wCo_X6_bringForward : Cond.code yX6_bringForward cX6_bringForward 5 (none) ∈ zT := zT_mem (i := 735) (by decide +kernel) rfl
theorem n_X6_bringForward : zYN mX6_bringForward 2 := ⟨by decide +kernel, by decide +kernel, by decide +kernel⟩
theorem wIn_X6_bringForward : Cond.instanceMethod yX6_bringForward ∈ zT := zT_mem (i := 734) (by decide +kernel) rfl
theorem wSe_X6_bringForward : Cond.selects RX6 yX6_bringForward yX6_bringForward ∈ zT := zT_memS (i := 27) (by decide +kernel) rfl
theorem wlX6_60 : Cond.methodLink RX6 60 yX6_bringForward ∈ zT := zT_mem (i := 732) (by decide +kernel) rfl
theorem kX6_60 : zKV RX6 60 mX6_bringForward 2 := ⟨wlX6_60, wIn_X6_bringForward, wSe_X6_bringForward, wIni_X6, wCo_X6_bringForward, n_X6_bringForward⟩
theorem kX7_3 : Cond.methodLink RX7 3 Lib.objectInit ∈ zT := zT_mem (i := 191) (by decide +kernel) rfl
theorem kX7_43 : Cond.methodLink RX7 43 Lib.Math.min.name ∈ zT := zT_mem (i := 536) (by decide +kernel) rfl
theorem kX7_49 : Cond.methodLink RX7 49 Lib.Math.max.name ∈ zT := zT_mem (i := 537) (by decide +kernel) rfl
theorem kX9_265 : Cond.methodLink RX9 265 Lib.Math.max.name ∈ zT := zT_mem (i := 771) (by decide +kernel) rfl
theorem wCo_X10_nextToken : Cond.code yX10_nextToken cX10_nextToken 1 (none) ∈ zT := zT_mem (i := 990) (by decide +kernel) rfl
theorem n_X10_nextToken : zYN mX10_nextToken 0 := ⟨by decide +kernel, by decide +kernel, by decide +kernel⟩
theorem wIn_X10_nextToken : Cond.instanceMethod yX10_nextToken ∈ zT := zT_mem (i := 989) (by decide +kernel) rfl
theorem wSe_X10_nextToken : Cond.selects RX10 yX10_nextToken yX10_nextToken ∈ zT := zT_memS (i := 30) (by decide +kernel) rfl
theorem wlX10_132 : Cond.methodLink RX10 132 yX10_nextToken ∈ zT := zT_mem (i := 987) (by decide +kernel) rfl
theorem kX10_132 : zKV RX10 132 mX10_nextToken 0 := ⟨wlX10_132, wIn_X10_nextToken, wSe_X10_nextToken, wIni_X10, wCo_X10_nextToken, n_X10_nextToken⟩
theorem wCo_X10_fails : Cond.code yX10_fails cX10_fails 2 (some .boolean) ∈ zT := zT_mem (i := 1002) (by decide +kernel) rfl
theorem n_X10_fails : zYN mX10_fails 1 := ⟨by decide +kernel, by decide +kernel, by decide +kernel⟩
theorem wIn_X10_fails : Cond.instanceMethod yX10_fails ∈ zT := zT_mem (i := 1001) (by decide +kernel) rfl
theorem wSe_X10_fails : Cond.selects RX10 yX10_fails yX10_fails ∈ zT := zT_memS (i := 33) (by decide +kernel) rfl
theorem wlX10_135 : Cond.methodLink RX10 135 yX10_fails ∈ zT := zT_mem (i := 999) (by decide +kernel) rfl
theorem kX10_135 : zKV RX10 135 mX10_fails 1 := ⟨wlX10_135, wIn_X10_fails, wSe_X10_fails, wIni_X10, wCo_X10_fails, n_X10_fails⟩
theorem wCo_X10_isOne : Cond.code yX10_isOne cX10_isOne 2 (some .boolean) ∈ zT := zT_mem (i := 1079) (by decide +kernel) rfl
theorem n_X10_isOne : zYN mX10_isOne 1 := ⟨by decide +kernel, by decide +kernel, by decide +kernel⟩
theorem wIn_X10_isOne : Cond.instanceMethod yX10_isOne ∈ zT := zT_mem (i := 1078) (by decide +kernel) rfl
theorem wSe_X10_isOne : Cond.selects RX10 yX10_isOne yX10_isOne ∈ zT := zT_memS (i := 48) (by decide +kernel) rfl
theorem wlX10_228 : Cond.methodLink RX10 228 yX10_isOne ∈ zT := zT_mem (i := 1076) (by decide +kernel) rfl
theorem kX10_228 : zKV RX10 228 mX10_isOne 1 := ⟨wlX10_228, wIn_X10_isOne, wSe_X10_isOne, wIni_X10, wCo_X10_isOne, n_X10_isOne⟩
theorem wCo_X10_loss : Cond.code yX10_loss cX10_loss 5 (some .int) ∈ zT := zT_mem (i := 1172) (by decide +kernel) rfl
theorem n_X10_loss : zYN mX10_loss 4 := ⟨by decide +kernel, by decide +kernel, by decide +kernel⟩
theorem wIn_X10_loss : Cond.instanceMethod yX10_loss ∈ zT := zT_mem (i := 1171) (by decide +kernel) rfl
theorem wSe_X10_loss : Cond.selects RX10 yX10_loss yX10_loss ∈ zT := zT_memS (i := 54) (by decide +kernel) rfl
theorem wlX10_254 : Cond.methodLink RX10 254 yX10_loss ∈ zT := zT_mem (i := 1169) (by decide +kernel) rfl
theorem kX10_254 : zKV RX10 254 mX10_loss 4 := ⟨wlX10_254, wIn_X10_loss, wSe_X10_loss, wIni_X10, wCo_X10_loss, n_X10_loss⟩
theorem kX1_3 : Cond.methodLink RX1 3 Lib.objectInit ∈ zT := zT_mem (i := 34) (by decide +kernel) rfl
theorem wCo_X1_makeUntold : Cond.code yX1_makeUntold cX1_makeUntold 1 (none) ∈ zT := zT_mem (i := 38) (by decide +kernel) rfl
theorem wIni_X1 : Cond.initialized RX1 ∈ zT := zT_mem (i := 3) (by decide +kernel) rfl
theorem n_X1_makeUntold : zYN mX1_makeUntold 0 := ⟨by decide +kernel, by decide +kernel, by decide +kernel⟩
theorem wIn_X1_makeUntold : Cond.instanceMethod yX1_makeUntold ∈ zT := zT_mem (i := 36) (by decide +kernel) rfl
theorem wSe_X1_makeUntold : Cond.selects RX1 yX1_makeUntold yX1_makeUntold ∈ zT := zT_mem (i := 37) (by decide +kernel) rfl
theorem wlX1_34 : Cond.methodLink RX1 34 yX1_makeUntold ∈ zT := zT_mem (i := 35) (by decide +kernel) rfl
theorem kX1_34 : zKV RX1 34 mX1_makeUntold 0 := ⟨wlX1_34, wIn_X1_makeUntold, wSe_X1_makeUntold, wIni_X1, wCo_X1_makeUntold, n_X1_makeUntold⟩
theorem wCo_X9_put : Cond.code yX9_put cX9_put 7 (some .int) ∈ zT := zT_mem (i := 583) (by decide +kernel) rfl
theorem n_X9_put : zYN mX9_put 5 := ⟨by decide +kernel, by decide +kernel, by decide +kernel⟩
theorem wIn_X9_put : Cond.instanceMethod yX9_put ∈ zT := zT_mem (i := 582) (by decide +kernel) rfl
theorem wSe_X9_put : Cond.selects RX9 yX9_put yX9_put ∈ zT := zT_memS (i := 18) (by decide +kernel) rfl
theorem wlX9_178 : Cond.methodLink RX9 178 yX9_put ∈ zT := zT_mem (i := 580) (by decide +kernel) rfl
theorem kX9_178 : zKV RX9 178 mX9_put 5 := ⟨wlX9_178, wIn_X9_put, wSe_X9_put, wIni_X9, wCo_X9_put, n_X9_put⟩
theorem fX9_44 : zF RX9 44 9 4 := zF.mk (RX9, TX9, 11) 355 rfl rfl (by decide +kernel) rfl
theorem wCo_X8_restingPairs : Cond.code yX8_restingPairs cX8_restingPairs 8 (some .int) ∈ zT := zT_mem (i := 759) (by decide +kernel) rfl
theorem n_X8_restingPairs : zYN mX8_restingPairs 2 := ⟨by decide +kernel, by decide +kernel, by decide +kernel⟩
theorem wIn_X8_restingPairs : Cond.instanceMethod yX8_restingPairs ∈ zT := zT_mem (i := 757) (by decide +kernel) rfl
theorem wSe_X8_restingPairs : Cond.selects RX8 yX8_restingPairs yX8_restingPairs ∈ zT := zT_mem (i := 758) (by decide +kernel) rfl
theorem wlX9_259 : Cond.methodLink RX9 259 yX8_restingPairs ∈ zT := zT_mem (i := 756) (by decide +kernel) rfl
theorem kX9_259 : zKV RX9 259 mX8_restingPairs 2 := ⟨wlX9_259, wIn_X8_restingPairs, wSe_X8_restingPairs, wIni_X8, wCo_X8_restingPairs, n_X8_restingPairs⟩
theorem wCo_X10_leafFor : Cond.code yX10_leafFor cX10_leafFor 6 (some .int) ∈ zT := zT_mem (i := 1038) (by decide +kernel) rfl
theorem n_X10_leafFor : zYN mX10_leafFor 1 := ⟨by decide +kernel, by decide +kernel, by decide +kernel⟩
theorem wIn_X10_leafFor : Cond.instanceMethod yX10_leafFor ∈ zT := zT_mem (i := 1037) (by decide +kernel) rfl
theorem wSe_X10_leafFor : Cond.selects RX10 yX10_leafFor yX10_leafFor ∈ zT := zT_memS (i := 40) (by decide +kernel) rfl
theorem wlX10_202 : Cond.methodLink RX10 202 yX10_leafFor ∈ zT := zT_mem (i := 1035) (by decide +kernel) rfl
theorem kX10_202 : zKV RX10 202 mX10_leafFor 1 := ⟨wlX10_202, wIn_X10_leafFor, wSe_X10_leafFor, wIni_X10, wCo_X10_leafFor, n_X10_leafFor⟩
theorem wCo_X10_goThrough : Cond.code yX10_goThrough cX10_goThrough 8 (none) ∈ zT := zT_mem (i := 1046) (by decide +kernel) rfl
theorem n_X10_goThrough : zYN mX10_goThrough 3 := ⟨by decide +kernel, by decide +kernel, by decide +kernel⟩
theorem wIn_X10_goThrough : Cond.instanceMethod yX10_goThrough ∈ zT := zT_mem (i := 1045) (by decide +kernel) rfl
theorem wSe_X10_goThrough : Cond.selects RX10 yX10_goThrough yX10_goThrough ∈ zT := zT_memS (i := 42) (by decide +kernel) rfl
theorem wlX10_206 : Cond.methodLink RX10 206 yX10_goThrough ∈ zT := zT_mem (i := 1043) (by decide +kernel) rfl
theorem kX10_206 : zKV RX10 206 mX10_goThrough 3 := ⟨wlX10_206, wIn_X10_goThrough, wSe_X10_goThrough, wIni_X10, wCo_X10_goThrough, n_X10_goThrough⟩
theorem wCo_X10_isHeard : Cond.code yX10_isHeard cX10_isHeard 4 (some .boolean) ∈ zT := zT_mem (i := 1062) (by decide +kernel) rfl
theorem n_X10_isHeard : zYN mX10_isHeard 1 := ⟨by decide +kernel, by decide +kernel, by decide +kernel⟩
theorem wIn_X10_isHeard : Cond.instanceMethod yX10_isHeard ∈ zT := zT_mem (i := 1061) (by decide +kernel) rfl
theorem wSe_X10_isHeard : Cond.selects RX10 yX10_isHeard yX10_isHeard ∈ zT := zT_memS (i := 46) (by decide +kernel) rfl
theorem wlX10_210 : Cond.methodLink RX10 210 yX10_isHeard ∈ zT := zT_mem (i := 1059) (by decide +kernel) rfl
theorem kX10_210 : zKV RX10 210 mX10_isHeard 1 := ⟨wlX10_210, wIn_X10_isHeard, wSe_X10_isHeard, wIni_X10, wCo_X10_isHeard, n_X10_isHeard⟩
theorem fX10_213 : zF RX10 213 10 38 := zF.mk (RX10, TX10, 47) 865 rfl rfl (by decide +kernel) rfl
theorem wCo_X10_crash : Cond.code yX10_crash cX10_crash 5 (none) ∈ zT := zT_mem (i := 1066) (by decide +kernel) rfl
theorem n_X10_crash : zYN mX10_crash 2 := ⟨by decide +kernel, by decide +kernel, by decide +kernel⟩
theorem wIn_X10_crash : Cond.instanceMethod yX10_crash ∈ zT := zT_mem (i := 1065) (by decide +kernel) rfl
theorem wSe_X10_crash : Cond.selects RX10 yX10_crash yX10_crash ∈ zT := zT_memS (i := 47) (by decide +kernel) rfl
theorem wlX10_216 : Cond.methodLink RX10 216 yX10_crash ∈ zT := zT_mem (i := 1063) (by decide +kernel) rfl
theorem kX10_216 : zKV RX10 216 mX10_crash 2 := ⟨wlX10_216, wIn_X10_crash, wSe_X10_crash, wIni_X10, wCo_X10_crash, n_X10_crash⟩
theorem kX0_3 : Cond.methodLink RX0 3 Lib.objectInit ∈ zT := zT_mem (i := 182) (by decide +kernel) rfl
theorem lX0_9 : Cond.classLink RX0 9 RX7 ∈ zT := zT_mem (i := 183) (by decide +kernel) rfl
theorem lX0_17 : Cond.classLink RX0 17 RX3 ∈ zT := zT_mem (i := 185) (by decide +kernel) rfl
theorem wCo_X7_init : Cond.code yX7_init cX7_init 1 (none) ∈ zT := zT_mem (i := 190) (by decide +kernel) rfl
theorem n_X7_init : zYN mX7_init 0 := ⟨by decide +kernel, by decide +kernel, by decide +kernel⟩
theorem wIn_X7_init : Cond.instanceMethod yX7_init ∈ zT := zT_mem (i := 189) (by decide +kernel) rfl
theorem kX0_31 : zKN RX0 31 mX7_init 0 := ⟨⟨"SwingLeaves", by decide +kernel⟩, wIn_X7_init, wIni_X7, wCo_X7_init, n_X7_init, rfl, rfl⟩
theorem wCo_X3_init : Cond.code yX3_init cX3_init 1 (none) ∈ zT := zT_mem (i := 225) (by decide +kernel) rfl
theorem n_X3_init : zYN mX3_init 0 := ⟨by decide +kernel, by decide +kernel, by decide +kernel⟩
theorem wIn_X3_init : Cond.instanceMethod yX3_init ∈ zT := zT_mem (i := 224) (by decide +kernel) rfl
theorem kX0_32 : zKN RX0 32 mX3_init 0 := ⟨⟨"SwingLeaves", by decide +kernel⟩, wIn_X3_init, wIni_X3, wCo_X3_init, n_X3_init, rfl, rfl⟩
theorem kX2_1 : Cond.methodLink RX2 1 Lib.objectInit ∈ zT := zT_mem (i := 335) (by decide +kernel) rfl
theorem lX2_7 : Cond.classLink RX2 7 RX4 ∈ zT := zT_mem (i := 336) (by decide +kernel) rfl
theorem wIns_X4 : Cond.instantiable RX4 5 ∈ zT := zT_mem (i := 92) (by decide +kernel) rfl
theorem wIni_X4 : Cond.initialized RX4 ∈ zT := zT_mem (i := 5) (by decide +kernel) rfl
theorem wCo_X4_init : Cond.code yX4_init cX4_init 1 (none) ∈ zT := zT_mem (i := 95) (by decide +kernel) rfl
theorem n_X4_init : zYN mX4_init 0 := ⟨by decide +kernel, by decide +kernel, by decide +kernel⟩
theorem wIn_X4_init : Cond.instanceMethod yX4_init ∈ zT := zT_mem (i := 94) (by decide +kernel) rfl
theorem kX2_9 : zKN RX2 9 mX4_init 0 := ⟨⟨"SwingLeaves", by decide +kernel⟩, wIn_X4_init, wIni_X4, wCo_X4_init, n_X4_init, rfl, rfl⟩
theorem fX2_10 : zF RX2 10 2 0 := zF.mk (RX2, TX2, 3) 338 rfl rfl (by decide +kernel) rfl
theorem fX2_16 : zF RX2 16 2 1 := zF.mk (RX2, TX2, 3) 340 rfl rfl (by decide +kernel) rfl
theorem fX2_20 : zF RX2 20 2 2 := zF.mk (RX2, TX2, 3) 342 rfl rfl (by decide +kernel) rfl
theorem kX8_3 : Cond.methodLink RX8 3 Lib.objectInit ∈ zT := zT_mem (i := 280) (by decide +kernel) rfl
theorem lX8_9 : Cond.classLink RX8 9 RX4 ∈ zT := zT_mem (i := 281) (by decide +kernel) rfl
theorem kX8_11 : zKN RX8 11 mX4_init 0 := ⟨⟨"SwingLeaves", by decide +kernel⟩, wIn_X4_init, wIni_X4, wCo_X4_init, n_X4_init, rfl, rfl⟩
theorem lX8_18 : Cond.classLink RX8 18 RX6 ∈ zT := zT_mem (i := 283) (by decide +kernel) rfl
theorem wIns_X6 : Cond.instantiable RX6 4 ∈ zT := zT_mem (i := 284) (by decide +kernel) rfl
theorem wCo_X6_init : Cond.code yX6_init cX6_init 1 (none) ∈ zT := zT_mem (i := 287) (by decide +kernel) rfl
theorem n_X6_init : zYN mX6_init 0 := ⟨by decide +kernel, by decide +kernel, by decide +kernel⟩
theorem wIn_X6_init : Cond.instanceMethod yX6_init ∈ zT := zT_mem (i := 286) (by decide +kernel) rfl
theorem kX8_20 : zKN RX8 20 mX6_init 0 := ⟨⟨"SwingLeaves", by decide +kernel⟩, wIn_X6_init, wIni_X6, wCo_X6_init, n_X6_init, rfl, rfl⟩
theorem fX8_21 : zF RX8 21 8 4 := zF.mk (RX8, TX8, 7) 309 rfl rfl (by decide +kernel) rfl
theorem fX8_25 : zF RX8 25 8 5 := zF.mk (RX8, TX8, 7) 310 rfl rfl (by decide +kernel) rfl
theorem fX8_29 : zF RX8 29 8 6 := zF.mk (RX8, TX8, 7) 312 rfl rfl (by decide +kernel) rfl
theorem fX8_39 : zF RX8 39 8 2 := zF.mk (RX8, TX8, 7) 307 rfl rfl (by decide +kernel) rfl
theorem wCo_X4_copyFrom : Cond.code yX4_copyFrom cX4_copyFrom 2 (none) ∈ zT := zT_mem (i := 462) (by decide +kernel) rfl
theorem n_X4_copyFrom : zYN mX4_copyFrom 1 := ⟨by decide +kernel, by decide +kernel, by decide +kernel⟩
theorem wIn_X4_copyFrom : Cond.instanceMethod yX4_copyFrom ∈ zT := zT_mem (i := 460) (by decide +kernel) rfl
theorem wSe_X4_copyFrom : Cond.selects RX4 yX4_copyFrom yX4_copyFrom ∈ zT := zT_mem (i := 461) (by decide +kernel) rfl
theorem wlX8_43 : Cond.methodLink RX8 43 yX4_copyFrom ∈ zT := zT_mem (i := 639) (by decide +kernel) rfl
theorem kX8_43 : zKV RX8 43 mX4_copyFrom 1 := ⟨wlX8_43, wIn_X4_copyFrom, wSe_X4_copyFrom, wIni_X4, wCo_X4_copyFrom, n_X4_copyFrom⟩
theorem cX8_47 : Cond.constant RX8 47 (1000000000) ∈ zT := zT_mem (i := 659) (by decide +kernel) rfl
theorem wCo_X9_noImage : Cond.code yX9_noImage cX9_noImage 1 (some .boolean) ∈ zT := zT_mem (i := 816) (by decide +kernel) rfl
theorem n_X9_noImage : zYN mX9_noImage 1 := ⟨by decide +kernel, by decide +kernel, by decide +kernel⟩
theorem wSt_X9_noImage : Cond.static yX9_noImage ∈ zT := zT_mem (i := 815) (by decide +kernel) rfl
theorem wlX9_282 : Cond.methodLink RX9 282 yX9_noImage ∈ zT := zT_mem (i := 814) (by decide +kernel) rfl
theorem kX9_282 : zKS RX9 282 mX9_noImage 1 := ⟨wlX9_282, wSt_X9_noImage, wIni_X9, wCo_X9_noImage, n_X9_noImage⟩
theorem fX9_50 : zF RX9 50 9 5 := zF.mk (RX9, TX9, 11) 356 rfl rfl (by decide +kernel) rfl
theorem fX9_97 : zF RX9 97 2 2 := zF.mk (RX2, TX2, 3) 343 rfl rfl (by decide +kernel) rfl
theorem fX9_285 : zF RX9 285 2 0 := zF.mk (RX2, TX2, 3) 339 rfl rfl (by decide +kernel) rfl
theorem wlX9_94 : Cond.methodLink RX9 94 yX4_copyFrom ∈ zT := zT_mem (i := 459) (by decide +kernel) rfl
theorem kX9_94 : zKV RX9 94 mX4_copyFrom 1 := ⟨wlX9_94, wIn_X4_copyFrom, wSe_X4_copyFrom, wIni_X4, wCo_X4_copyFrom, n_X4_copyFrom⟩
theorem fX9_286 : zF RX9 286 2 1 := zF.mk (RX2, TX2, 3) 341 rfl rfl (by decide +kernel) rfl
theorem wCo_X9_carried : Cond.code yX9_carried cX9_carried 2 (some .int) ∈ zT := zT_mem (i := 770) (by decide +kernel) rfl
theorem n_X9_carried : zYN mX9_carried 2 := ⟨by decide +kernel, by decide +kernel, by decide +kernel⟩
theorem wSt_X9_carried : Cond.static yX9_carried ∈ zT := zT_mem (i := 769) (by decide +kernel) rfl
theorem wlX9_262 : Cond.methodLink RX9 262 yX9_carried ∈ zT := zT_mem (i := 768) (by decide +kernel) rfl
theorem kX9_262 : zKS RX9 262 mX9_carried 2 := ⟨wlX9_262, wSt_X9_carried, wIni_X9, wCo_X9_carried, n_X9_carried⟩
theorem wCo_X5_readNumber : Cond.code yX5_readNumber cX5_readNumber 5 (some .int) ∈ zT := zT_mem (i := 424) (by decide +kernel) rfl
theorem n_X5_readNumber : zYN mX5_readNumber 2 := ⟨by decide +kernel, by decide +kernel, by decide +kernel⟩
theorem wIn_X5_readNumber : Cond.instanceMethod yX5_readNumber ∈ zT := zT_mem (i := 423) (by decide +kernel) rfl
theorem wSe_X5_readNumber : Cond.selects RX5 yX5_readNumber yX5_readNumber ∈ zT := zT_memS (i := 3) (by decide +kernel) rfl
theorem wlX5_88 : Cond.methodLink RX5 88 yX5_readNumber ∈ zT := zT_mem (i := 421) (by decide +kernel) rfl
theorem kX5_88 : zKV RX5 88 mX5_readNumber 2 := ⟨wlX5_88, wIn_X5_readNumber, wSe_X5_readNumber, wIni_X5, wCo_X5_readNumber, n_X5_readNumber⟩
theorem fX5_29 : zF RX5 29 5 3 := zF.mk (RX5, TX5, 11) 139 rfl rfl (by decide +kernel) rfl
theorem fX5_12 : zF RX5 12 5 0 := zF.mk (RX5, TX5, 11) 134 rfl rfl (by decide +kernel) rfl
theorem fX5_92 : zF RX5 92 1 0 := zF.mk (RX1, TX1, 7) 43 rfl rfl (by decide +kernel) rfl
theorem fX5_95 : zF RX5 95 1 1 := zF.mk (RX1, TX1, 7) 47 rfl rfl (by decide +kernel) rfl
theorem wCo_X5_readEnd : Cond.code yX5_readEnd cX5_readEnd 1 (none) ∈ zT := zT_mem (i := 439) (by decide +kernel) rfl
theorem n_X5_readEnd : zYN mX5_readEnd 0 := ⟨by decide +kernel, by decide +kernel, by decide +kernel⟩
theorem wIn_X5_readEnd : Cond.instanceMethod yX5_readEnd ∈ zT := zT_mem (i := 438) (by decide +kernel) rfl
theorem wSe_X5_readEnd : Cond.selects RX5 yX5_readEnd yX5_readEnd ∈ zT := zT_memS (i := 6) (by decide +kernel) rfl
theorem wlX5_98 : Cond.methodLink RX5 98 yX5_readEnd ∈ zT := zT_mem (i := 436) (by decide +kernel) rfl
theorem kX5_98 : zKV RX5 98 mX5_readEnd 0 := ⟨wlX5_98, wIn_X5_readEnd, wSe_X5_readEnd, wIni_X5, wCo_X5_readEnd, n_X5_readEnd⟩
theorem fX5_52 : zF RX5 52 5 10 := zF.mk (RX5, TX5, 11) 149 rfl rfl (by decide +kernel) rfl
theorem fX5_21 : zF RX5 21 5 1 := zF.mk (RX5, TX5, 11) 136 rfl rfl (by decide +kernel) rfl
theorem fX5_128 : zF RX5 128 4 4 := zF.mk (RX4, TX4, 5) 121 rfl rfl (by decide +kernel) rfl
theorem fX5_101 : zF RX5 101 1 6 := zF.mk (RX1, TX1, 7) 73 rfl rfl (by decide +kernel) rfl
theorem fX5_104 : zF RX5 104 1 2 := zF.mk (RX1, TX1, 7) 53 rfl rfl (by decide +kernel) rfl
theorem fX5_107 : zF RX5 107 4 0 := zF.mk (RX4, TX4, 5) 100 rfl rfl (by decide +kernel) rfl
theorem fX5_110 : zF RX5 110 1 3 := zF.mk (RX1, TX1, 7) 57 rfl rfl (by decide +kernel) rfl
theorem fX5_113 : zF RX5 113 1 4 := zF.mk (RX1, TX1, 7) 61 rfl rfl (by decide +kernel) rfl
theorem fX5_116 : zF RX5 116 4 1 := zF.mk (RX4, TX4, 5) 104 rfl rfl (by decide +kernel) rfl
theorem fX5_119 : zF RX5 119 4 2 := zF.mk (RX4, TX4, 5) 111 rfl rfl (by decide +kernel) rfl
theorem fX5_122 : zF RX5 122 1 5 := zF.mk (RX1, TX1, 7) 67 rfl rfl (by decide +kernel) rfl
theorem fX5_48 : zF RX5 48 5 9 := zF.mk (RX5, TX5, 11) 148 rfl rfl (by decide +kernel) rfl
theorem fX5_125 : zF RX5 125 4 3 := zF.mk (RX4, TX4, 5) 116 rfl rfl (by decide +kernel) rfl
theorem fX0_58 : zF RX0 58 1 3 := zF.mk (RX1, TX1, 7) 56 rfl rfl (by decide +kernel) rfl
theorem fX0_67 : zF RX0 67 4 2 := zF.mk (RX4, TX4, 5) 109 rfl rfl (by decide +kernel) rfl
theorem wCo_X0_chooseLeaf : Cond.code yX0_chooseLeaf cX0_chooseLeaf 6 (some .int) ∈ zT := zT_mem (i := 496) (by decide +kernel) rfl
theorem n_X0_chooseLeaf : zYN mX0_chooseLeaf 3 := ⟨by decide +kernel, by decide +kernel, by decide +kernel⟩
theorem wIn_X0_chooseLeaf : Cond.instanceMethod yX0_chooseLeaf ∈ zT := zT_mem (i := 495) (by decide +kernel) rfl
theorem wSe_X0_chooseLeaf : Cond.selects RX0 yX0_chooseLeaf yX0_chooseLeaf ∈ zT := zT_memS (i := 13) (by decide +kernel) rfl
theorem wlX0_70 : Cond.methodLink RX0 70 yX0_chooseLeaf ∈ zT := zT_mem (i := 493) (by decide +kernel) rfl
theorem kX0_70 : zKV RX0 70 mX0_chooseLeaf 3 := ⟨wlX0_70, wIn_X0_chooseLeaf, wSe_X0_chooseLeaf, wIni_X0, wCo_X0_chooseLeaf, n_X0_chooseLeaf⟩
theorem fX0_77 : zF RX0 77 7 6 := zF.mk (RX7, TX7, 8) 201 rfl rfl (by decide +kernel) rfl
theorem fX0_84 : zF RX0 84 4 3 := zF.mk (RX4, TX4, 5) 114 rfl rfl (by decide +kernel) rfl
theorem wCo_X0_isHeard : Cond.code yX0_isHeard cX0_isHeard 6 (some .boolean) ∈ zT := zT_mem (i := 504) (by decide +kernel) rfl
theorem n_X0_isHeard : zYN mX0_isHeard 2 := ⟨by decide +kernel, by decide +kernel, by decide +kernel⟩
theorem wIn_X0_isHeard : Cond.instanceMethod yX0_isHeard ∈ zT := zT_mem (i := 503) (by decide +kernel) rfl
theorem wSe_X0_isHeard : Cond.selects RX0 yX0_isHeard yX0_isHeard ∈ zT := zT_memS (i := 14) (by decide +kernel) rfl
theorem wlX0_87 : Cond.methodLink RX0 87 yX0_isHeard ∈ zT := zT_mem (i := 501) (by decide +kernel) rfl
theorem kX0_87 : zKV RX0 87 mX0_isHeard 2 := ⟨wlX0_87, wIn_X0_isHeard, wSe_X0_isHeard, wIni_X0, wCo_X0_isHeard, n_X0_isHeard⟩
theorem fX0_91 : zF RX0 91 7 2 := zF.mk (RX7, TX7, 8) 196 rfl rfl (by decide +kernel) rfl
theorem wCo_X0_crashBoth : Cond.code yX0_crashBoth cX0_crashBoth 3 (none) ∈ zT := zT_mem (i := 508) (by decide +kernel) rfl
theorem n_X0_crashBoth : zYN mX0_crashBoth 2 := ⟨by decide +kernel, by decide +kernel, by decide +kernel⟩
theorem wIn_X0_crashBoth : Cond.instanceMethod yX0_crashBoth ∈ zT := zT_mem (i := 507) (by decide +kernel) rfl
theorem wSe_X0_crashBoth : Cond.selects RX0 yX0_crashBoth yX0_crashBoth ∈ zT := zT_memS (i := 15) (by decide +kernel) rfl
theorem wlX0_94 : Cond.methodLink RX0 94 yX0_crashBoth ∈ zT := zT_mem (i := 505) (by decide +kernel) rfl
theorem kX0_94 : zKV RX0 94 mX0_crashBoth 2 := ⟨wlX0_94, wIn_X0_crashBoth, wSe_X0_crashBoth, wIni_X0, wCo_X0_crashBoth, n_X0_crashBoth⟩
theorem fX0_98 : zF RX0 98 7 1 := zF.mk (RX7, TX7, 8) 194 rfl rfl (by decide +kernel) rfl
theorem wCo_X0_goThrough : Cond.code yX0_goThrough cX0_goThrough 7 (none) ∈ zT := zT_mem (i := 516) (by decide +kernel) rfl
theorem n_X0_goThrough : zYN mX0_goThrough 3 := ⟨by decide +kernel, by decide +kernel, by decide +kernel⟩
theorem wIn_X0_goThrough : Cond.instanceMethod yX0_goThrough ∈ zT := zT_mem (i := 515) (by decide +kernel) rfl
theorem wSe_X0_goThrough : Cond.selects RX0 yX0_goThrough yX0_goThrough ∈ zT := zT_memS (i := 16) (by decide +kernel) rfl
theorem wlX0_101 : Cond.methodLink RX0 101 yX0_goThrough ∈ zT := zT_mem (i := 513) (by decide +kernel) rfl
theorem kX0_101 : zKV RX0 101 mX0_goThrough 3 := ⟨wlX0_101, wIn_X0_goThrough, wSe_X0_goThrough, wIni_X0, wCo_X0_goThrough, n_X0_goThrough⟩
theorem fX0_108 : zF RX0 108 3 1 := zF.mk (RX3, TX3, 6) 232 rfl rfl (by decide +kernel) rfl
theorem wCo_X7_letThrough : Cond.code yX7_letThrough cX7_letThrough 5 (none) ∈ zT := zT_mem (i := 535) (by decide +kernel) rfl
theorem n_X7_letThrough : zYN mX7_letThrough 4 := ⟨by decide +kernel, by decide +kernel, by decide +kernel⟩
theorem wIn_X7_letThrough : Cond.instanceMethod yX7_letThrough ∈ zT := zT_mem (i := 533) (by decide +kernel) rfl
theorem wSe_X7_letThrough : Cond.selects RX7 yX7_letThrough yX7_letThrough ∈ zT := zT_mem (i := 534) (by decide +kernel) rfl
theorem wlX0_114 : Cond.methodLink RX0 114 yX7_letThrough ∈ zT := zT_mem (i := 532) (by decide +kernel) rfl
theorem kX0_114 : zKV RX0 114 mX7_letThrough 4 := ⟨wlX0_114, wIn_X7_letThrough, wSe_X7_letThrough, wIni_X7, wCo_X7_letThrough, n_X7_letThrough⟩
theorem kX5_3 : Cond.methodLink RX5 3 Lib.objectInit ∈ zT := zT_mem (i := 28) (by decide +kernel) rfl
theorem lX5_9 : Cond.classLink RX5 9 RX1 ∈ zT := zT_mem (i := 29) (by decide +kernel) rfl
theorem wIns_X1 : Cond.instantiable RX1 7 ∈ zT := zT_mem (i := 30) (by decide +kernel) rfl
theorem wCo_X1_init : Cond.code yX1_init cX1_init 1 (none) ∈ zT := zT_mem (i := 33) (by decide +kernel) rfl
theorem n_X1_init : zYN mX1_init 0 := ⟨by decide +kernel, by decide +kernel, by decide +kernel⟩
theorem wIn_X1_init : Cond.instanceMethod yX1_init ∈ zT := zT_mem (i := 32) (by decide +kernel) rfl
theorem wlX5_11 : Cond.methodLink RX5 11 yX1_init ∈ zT := zT_mem (i := 31) (by decide +kernel) rfl
theorem kX5_11 : zKI RX5 11 mX1_init 0 := ⟨wlX5_11, wIn_X1_init, wIni_X1, wCo_X1_init, n_X1_init, rfl, rfl⟩
theorem lX5_18 : Cond.classLink RX5 18 RX4 ∈ zT := zT_mem (i := 91) (by decide +kernel) rfl
theorem kX5_20 : zKN RX5 20 mX4_init 0 := ⟨⟨"SwingLeaves", by decide +kernel⟩, wIn_X4_init, wIni_X4, wCo_X4_init, n_X4_init, rfl, rfl⟩
theorem fX10_149 : zF RX10 149 10 14 := zF.mk (RX10, TX10, 47) 841 rfl rfl (by decide +kernel) rfl
theorem wCo_X10_isNumber : Cond.code yX10_isNumber cX10_isNumber 3 (some .boolean) ∈ zT := zT_mem (i := 998) (by decide +kernel) rfl
theorem n_X10_isNumber : zYN mX10_isNumber 2 := ⟨by decide +kernel, by decide +kernel, by decide +kernel⟩
theorem wIn_X10_isNumber : Cond.instanceMethod yX10_isNumber ∈ zT := zT_mem (i := 997) (by decide +kernel) rfl
theorem wSe_X10_isNumber : Cond.selects RX10 yX10_isNumber yX10_isNumber ∈ zT := zT_memS (i := 32) (by decide +kernel) rfl
theorem wlX10_139 : Cond.methodLink RX10 139 yX10_isNumber ∈ zT := zT_mem (i := 995) (by decide +kernel) rfl
theorem kX10_139 : zKV RX10 139 mX10_isNumber 2 := ⟨wlX10_139, wIn_X10_isNumber, wSe_X10_isNumber, wIni_X10, wCo_X10_isNumber, n_X10_isNumber⟩
theorem fX10_153 : zF RX10 153 10 12 := zF.mk (RX10, TX10, 47) 839 rfl rfl (by decide +kernel) rfl
theorem fX10_143 : zF RX10 143 10 11 := zF.mk (RX10, TX10, 47) 838 rfl rfl (by decide +kernel) rfl
theorem fX10_156 : zF RX10 156 10 15 := zF.mk (RX10, TX10, 47) 842 rfl rfl (by decide +kernel) rfl
theorem fX10_159 : zF RX10 159 10 13 := zF.mk (RX10, TX10, 47) 840 rfl rfl (by decide +kernel) rfl
theorem fX10_146 : zF RX10 146 10 8 := zF.mk (RX10, TX10, 47) 835 rfl rfl (by decide +kernel) rfl
theorem wCo_X10_look : Cond.code yX10_look cX10_look 6 (none) ∈ zT := zT_mem (i := 1034) (by decide +kernel) rfl
theorem n_X10_look : zYN mX10_look 1 := ⟨by decide +kernel, by decide +kernel, by decide +kernel⟩
theorem wIn_X10_look : Cond.instanceMethod yX10_look ∈ zT := zT_mem (i := 1033) (by decide +kernel) rfl
theorem wSe_X10_look : Cond.selects RX10 yX10_look yX10_look ∈ zT := zT_memS (i := 39) (by decide +kernel) rfl
theorem wlX10_220 : Cond.methodLink RX10 220 yX10_look ∈ zT := zT_mem (i := 1031) (by decide +kernel) rfl
theorem kX10_220 : zKV RX10 220 mX10_look 1 := ⟨wlX10_220, wIn_X10_look, wSe_X10_look, wIni_X10, wCo_X10_look, n_X10_look⟩
theorem wCo_X5_readLeaf : Cond.code yX5_readLeaf cX5_readLeaf 2 (none) ∈ zT := zT_mem (i := 420) (by decide +kernel) rfl
theorem n_X5_readLeaf : zYN mX5_readLeaf 0 := ⟨by decide +kernel, by decide +kernel, by decide +kernel⟩
theorem wIn_X5_readLeaf : Cond.instanceMethod yX5_readLeaf ∈ zT := zT_mem (i := 419) (by decide +kernel) rfl
theorem wSe_X5_readLeaf : Cond.selects RX5 yX5_readLeaf yX5_readLeaf ∈ zT := zT_memS (i := 2) (by decide +kernel) rfl
theorem wlX5_72 : Cond.methodLink RX5 72 yX5_readLeaf ∈ zT := zT_mem (i := 417) (by decide +kernel) rfl
theorem kX5_72 : zKV RX5 72 mX5_readLeaf 0 := ⟨wlX5_72, wIn_X5_readLeaf, wSe_X5_readLeaf, wIni_X5, wCo_X5_readLeaf, n_X5_readLeaf⟩
theorem wCo_X5_readWaiter : Cond.code yX5_readWaiter cX5_readWaiter 2 (none) ∈ zT := zT_mem (i := 443) (by decide +kernel) rfl
theorem n_X5_readWaiter : zYN mX5_readWaiter 0 := ⟨by decide +kernel, by decide +kernel, by decide +kernel⟩
theorem wIn_X5_readWaiter : Cond.instanceMethod yX5_readWaiter ∈ zT := zT_mem (i := 442) (by decide +kernel) rfl
theorem wSe_X5_readWaiter : Cond.selects RX5 yX5_readWaiter yX5_readWaiter ∈ zT := zT_memS (i := 7) (by decide +kernel) rfl
theorem wlX5_75 : Cond.methodLink RX5 75 yX5_readWaiter ∈ zT := zT_mem (i := 440) (by decide +kernel) rfl
theorem kX5_75 : zKV RX5 75 mX5_readWaiter 0 := ⟨wlX5_75, wIn_X5_readWaiter, wSe_X5_readWaiter, wIni_X5, wCo_X5_readWaiter, n_X5_readWaiter⟩
theorem wCo_X5_readWindow : Cond.code yX5_readWindow cX5_readWindow 1 (none) ∈ zT := zT_mem (i := 447) (by decide +kernel) rfl
theorem n_X5_readWindow : zYN mX5_readWindow 0 := ⟨by decide +kernel, by decide +kernel, by decide +kernel⟩
theorem wIn_X5_readWindow : Cond.instanceMethod yX5_readWindow ∈ zT := zT_mem (i := 446) (by decide +kernel) rfl
theorem wSe_X5_readWindow : Cond.selects RX5 yX5_readWindow yX5_readWindow ∈ zT := zT_memS (i := 8) (by decide +kernel) rfl
theorem wlX5_78 : Cond.methodLink RX5 78 yX5_readWindow ∈ zT := zT_mem (i := 444) (by decide +kernel) rfl
theorem kX5_78 : zKV RX5 78 mX5_readWindow 0 := ⟨wlX5_78, wIn_X5_readWindow, wSe_X5_readWindow, wIni_X5, wCo_X5_readWindow, n_X5_readWindow⟩
theorem wCo_X5_readNoise : Cond.code yX5_readNoise cX5_readNoise 1 (none) ∈ zT := zT_mem (i := 451) (by decide +kernel) rfl
theorem n_X5_readNoise : zYN mX5_readNoise 0 := ⟨by decide +kernel, by decide +kernel, by decide +kernel⟩
theorem wIn_X5_readNoise : Cond.instanceMethod yX5_readNoise ∈ zT := zT_mem (i := 450) (by decide +kernel) rfl
theorem wSe_X5_readNoise : Cond.selects RX5 yX5_readNoise yX5_readNoise ∈ zT := zT_memS (i := 9) (by decide +kernel) rfl
theorem wlX5_81 : Cond.methodLink RX5 81 yX5_readNoise ∈ zT := zT_mem (i := 448) (by decide +kernel) rfl
theorem kX5_81 : zKV RX5 81 mX5_readNoise 0 := ⟨wlX5_81, wIn_X5_readNoise, wSe_X5_readNoise, wIni_X5, wCo_X5_readNoise, n_X5_readNoise⟩
theorem wCo_X7_rest : Cond.code yX7_rest cX7_rest 1 (none) ∈ zT := zT_mem (i := 483) (by decide +kernel) rfl
theorem n_X7_rest : zYN mX7_rest 0 := ⟨by decide +kernel, by decide +kernel, by decide +kernel⟩
theorem wIn_X7_rest : Cond.instanceMethod yX7_rest ∈ zT := zT_mem (i := 481) (by decide +kernel) rfl
theorem wSe_X7_rest : Cond.selects RX7 yX7_rest yX7_rest ∈ zT := zT_mem (i := 482) (by decide +kernel) rfl
theorem wlX0_33 : Cond.methodLink RX0 33 yX7_rest ∈ zT := zT_mem (i := 480) (by decide +kernel) rfl
theorem kX0_33 : zKV RX0 33 mX7_rest 0 := ⟨wlX0_33, wIn_X7_rest, wSe_X7_rest, wIni_X7, wCo_X7_rest, n_X7_rest⟩
theorem wCo_X0_lineUp : Cond.code yX0_lineUp cX0_lineUp 4 (none) ∈ zT := zT_mem (i := 488) (by decide +kernel) rfl
theorem n_X0_lineUp : zYN mX0_lineUp 1 := ⟨by decide +kernel, by decide +kernel, by decide +kernel⟩
theorem wIn_X0_lineUp : Cond.instanceMethod yX0_lineUp ∈ zT := zT_mem (i := 487) (by decide +kernel) rfl
theorem wSe_X0_lineUp : Cond.selects RX0 yX0_lineUp yX0_lineUp ∈ zT := zT_memS (i := 11) (by decide +kernel) rfl
theorem wlX0_36 : Cond.methodLink RX0 36 yX0_lineUp ∈ zT := zT_mem (i := 485) (by decide +kernel) rfl
theorem kX0_36 : zKV RX0 36 mX0_lineUp 1 := ⟨wlX0_36, wIn_X0_lineUp, wSe_X0_lineUp, wIni_X0, wCo_X0_lineUp, n_X0_lineUp⟩
theorem wCo_X0_lookAt : Cond.code yX0_lookAt cX0_lookAt 10 (none) ∈ zT := zT_mem (i := 492) (by decide +kernel) rfl
theorem n_X0_lookAt : zYN mX0_lookAt 2 := ⟨by decide +kernel, by decide +kernel, by decide +kernel⟩
theorem wIn_X0_lookAt : Cond.instanceMethod yX0_lookAt ∈ zT := zT_mem (i := 491) (by decide +kernel) rfl
theorem wSe_X0_lookAt : Cond.selects RX0 yX0_lookAt yX0_lookAt ∈ zT := zT_memS (i := 12) (by decide +kernel) rfl
theorem wlX0_46 : Cond.methodLink RX0 46 yX0_lookAt ∈ zT := zT_mem (i := 489) (by decide +kernel) rfl
theorem kX0_46 : zKV RX0 46 mX0_lookAt 2 := ⟨wlX0_46, wIn_X0_lookAt, wSe_X0_lookAt, wIni_X0, wCo_X0_lookAt, n_X0_lookAt⟩
theorem kX9_1 : Cond.methodLink RX9 1 Lib.objectInit ∈ zT := zT_mem (i := 20) (by decide +kernel) rfl
theorem lX9_7 : Cond.classLink RX9 7 RX5 ∈ zT := zT_mem (i := 23) (by decide +kernel) rfl
theorem wIns_X5 : Cond.instantiable RX5 11 ∈ zT := zT_mem (i := 24) (by decide +kernel) rfl
theorem wCo_X5_init : Cond.code yX5_init cX5_init 1 (none) ∈ zT := zT_mem (i := 27) (by decide +kernel) rfl
theorem n_X5_init : zYN mX5_init 0 := ⟨by decide +kernel, by decide +kernel, by decide +kernel⟩
theorem wIn_X5_init : Cond.instanceMethod yX5_init ∈ zT := zT_mem (i := 26) (by decide +kernel) rfl
theorem kX9_9 : zKN RX9 9 mX5_init 0 := ⟨⟨"SwingLeaves", by decide +kernel⟩, wIn_X5_init, wIni_X5, wCo_X5_init, n_X5_init, rfl, rfl⟩
theorem lX9_16 : Cond.classLink RX9 16 RX1 ∈ zT := zT_mem (i := 173) (by decide +kernel) rfl
theorem wlX9_18 : Cond.methodLink RX9 18 yX1_init ∈ zT := zT_mem (i := 174) (by decide +kernel) rfl
theorem kX9_18 : zKI RX9 18 mX1_init 0 := ⟨wlX9_18, wIn_X1_init, wIni_X1, wCo_X1_init, n_X1_init, rfl, rfl⟩
theorem lX9_23 : Cond.classLink RX9 23 RX4 ∈ zT := zT_mem (i := 175) (by decide +kernel) rfl
theorem kX9_25 : zKN RX9 25 mX4_init 0 := ⟨⟨"SwingLeaves", by decide +kernel⟩, wIn_X4_init, wIni_X4, wCo_X4_init, n_X4_init, rfl, rfl⟩
theorem lX9_30 : Cond.classLink RX9 30 RX0 ∈ zT := zT_mem (i := 177) (by decide +kernel) rfl
theorem wIns_X0 : Cond.instantiable RX0 4 ∈ zT := zT_mem (i := 178) (by decide +kernel) rfl
theorem wCo_X0_init : Cond.code yX0_init cX0_init 3 (none) ∈ zT := zT_mem (i := 181) (by decide +kernel) rfl
theorem n_X0_init : zYN mX0_init 1 := ⟨by decide +kernel, by decide +kernel, by decide +kernel⟩
theorem wIn_X0_init : Cond.instanceMethod yX0_init ∈ zT := zT_mem (i := 180) (by decide +kernel) rfl
theorem wlX9_32 : Cond.methodLink RX9 32 yX0_init ∈ zT := zT_mem (i := 179) (by decide +kernel) rfl
theorem kX9_32 : zKI RX9 32 mX0_init 1 := ⟨wlX9_32, wIn_X0_init, wIni_X0, wCo_X0_init, n_X0_init, rfl, rfl⟩
theorem fX9_35 : zF RX9 35 9 3 := zF.mk (RX9, TX9, 11) 354 rfl rfl (by decide +kernel) rfl
theorem lX9_39 : Cond.classLink RX9 39 RX8 ∈ zT := zT_mem (i := 275) (by decide +kernel) rfl
theorem wIns_X8 : Cond.instantiable RX8 7 ∈ zT := zT_mem (i := 276) (by decide +kernel) rfl
theorem wCo_X8_init : Cond.code yX8_init cX8_init 4 (none) ∈ zT := zT_mem (i := 279) (by decide +kernel) rfl
theorem n_X8_init : zYN mX8_init 3 := ⟨by decide +kernel, by decide +kernel, by decide +kernel⟩
theorem wIn_X8_init : Cond.instanceMethod yX8_init ∈ zT := zT_mem (i := 278) (by decide +kernel) rfl
theorem wlX9_41 : Cond.methodLink RX9 41 yX8_init ∈ zT := zT_mem (i := 277) (by decide +kernel) rfl
theorem kX9_41 : zKI RX9 41 mX8_init 3 := ⟨wlX9_41, wIn_X8_init, wIni_X8, wCo_X8_init, n_X8_init, rfl, rfl⟩
theorem lX9_48 : Cond.classLink RX9 48 RX2 ∈ zT := zT_mem (i := 329) (by decide +kernel) rfl
theorem wCo_X2_init : Cond.code yX2_init cX2_init 1 (none) ∈ zT := zT_mem (i := 334) (by decide +kernel) rfl
theorem wIni_X2 : Cond.initialized RX2 ∈ zT := zT_mem (i := 11) (by decide +kernel) rfl
theorem n_X2_init : zYN mX2_init 0 := ⟨by decide +kernel, by decide +kernel, by decide +kernel⟩
theorem wIn_X2_init : Cond.instanceMethod yX2_init ∈ zT := zT_mem (i := 333) (by decide +kernel) rfl
theorem kX9_72 : zKN RX9 72 mX2_init 0 := ⟨⟨"SwingLeaves", by decide +kernel⟩, wIn_X2_init, wIni_X2, wCo_X2_init, n_X2_init, rfl, rfl⟩
theorem wCo_X10_isLeafLine : Cond.code yX10_isLeafLine cX10_isLeafLine 2 (some .boolean) ∈ zT := zT_mem (i := 994) (by decide +kernel) rfl
theorem n_X10_isLeafLine : zYN mX10_isLeafLine 0 := ⟨by decide +kernel, by decide +kernel, by decide +kernel⟩
theorem wIn_X10_isLeafLine : Cond.instanceMethod yX10_isLeafLine ∈ zT := zT_mem (i := 993) (by decide +kernel) rfl
theorem wSe_X10_isLeafLine : Cond.selects RX10 yX10_isLeafLine yX10_isLeafLine ∈ zT := zT_memS (i := 31) (by decide +kernel) rfl
theorem wlX10_162 : Cond.methodLink RX10 162 yX10_isLeafLine ∈ zT := zT_mem (i := 991) (by decide +kernel) rfl
theorem kX10_162 : zKV RX10 162 mX10_isLeafLine 0 := ⟨wlX10_162, wIn_X10_isLeafLine, wSe_X10_isLeafLine, wIni_X10, wCo_X10_isLeafLine, n_X10_isLeafLine⟩
theorem wCo_X10_isEnd : Cond.code yX10_isEnd cX10_isEnd 1 (some .boolean) ∈ zT := zT_mem (i := 1006) (by decide +kernel) rfl
theorem n_X10_isEnd : zYN mX10_isEnd 0 := ⟨by decide +kernel, by decide +kernel, by decide +kernel⟩
theorem wIn_X10_isEnd : Cond.instanceMethod yX10_isEnd ∈ zT := zT_mem (i := 1005) (by decide +kernel) rfl
theorem wSe_X10_isEnd : Cond.selects RX10 yX10_isEnd yX10_isEnd ∈ zT := zT_memS (i := 34) (by decide +kernel) rfl
theorem wlX10_166 : Cond.methodLink RX10 166 yX10_isEnd ∈ zT := zT_mem (i := 1003) (by decide +kernel) rfl
theorem kX10_166 : zKV RX10 166 mX10_isEnd 0 := ⟨wlX10_166, wIn_X10_isEnd, wSe_X10_isEnd, wIni_X10, wCo_X10_isEnd, n_X10_isEnd⟩
theorem wCo_X10_isWaiterLine : Cond.code yX10_isWaiterLine cX10_isWaiterLine 5 (some .boolean) ∈ zT := zT_mem (i := 1010) (by decide +kernel) rfl
theorem n_X10_isWaiterLine : zYN mX10_isWaiterLine 0 := ⟨by decide +kernel, by decide +kernel, by decide +kernel⟩
theorem wIn_X10_isWaiterLine : Cond.instanceMethod yX10_isWaiterLine ∈ zT := zT_mem (i := 1009) (by decide +kernel) rfl
theorem wSe_X10_isWaiterLine : Cond.selects RX10 yX10_isWaiterLine yX10_isWaiterLine ∈ zT := zT_memS (i := 35) (by decide +kernel) rfl
theorem wlX10_169 : Cond.methodLink RX10 169 yX10_isWaiterLine ∈ zT := zT_mem (i := 1007) (by decide +kernel) rfl
theorem kX10_169 : zKV RX10 169 mX10_isWaiterLine 0 := ⟨wlX10_169, wIn_X10_isWaiterLine, wSe_X10_isWaiterLine, wIni_X10, wCo_X10_isWaiterLine, n_X10_isWaiterLine⟩
theorem wCo_X10_isGlassLine : Cond.code yX10_isGlassLine cX10_isGlassLine 1 (some .boolean) ∈ zT := zT_mem (i := 1014) (by decide +kernel) rfl
theorem n_X10_isGlassLine : zYN mX10_isGlassLine 0 := ⟨by decide +kernel, by decide +kernel, by decide +kernel⟩
theorem wIn_X10_isGlassLine : Cond.instanceMethod yX10_isGlassLine ∈ zT := zT_mem (i := 1013) (by decide +kernel) rfl
theorem wSe_X10_isGlassLine : Cond.selects RX10 yX10_isGlassLine yX10_isGlassLine ∈ zT := zT_memS (i := 36) (by decide +kernel) rfl
theorem wlX10_172 : Cond.methodLink RX10 172 yX10_isGlassLine ∈ zT := zT_mem (i := 1011) (by decide +kernel) rfl
theorem kX10_172 : zKV RX10 172 mX10_isGlassLine 0 := ⟨wlX10_172, wIn_X10_isGlassLine, wSe_X10_isGlassLine, wIni_X10, wCo_X10_isGlassLine, n_X10_isGlassLine⟩
theorem wCo_X10_isNoiseLine : Cond.code yX10_isNoiseLine cX10_isNoiseLine 1 (some .boolean) ∈ zT := zT_mem (i := 1018) (by decide +kernel) rfl
theorem n_X10_isNoiseLine : zYN mX10_isNoiseLine 0 := ⟨by decide +kernel, by decide +kernel, by decide +kernel⟩
theorem wIn_X10_isNoiseLine : Cond.instanceMethod yX10_isNoiseLine ∈ zT := zT_mem (i := 1017) (by decide +kernel) rfl
theorem wSe_X10_isNoiseLine : Cond.selects RX10 yX10_isNoiseLine yX10_isNoiseLine ∈ zT := zT_memS (i := 37) (by decide +kernel) rfl
theorem wlX10_175 : Cond.methodLink RX10 175 yX10_isNoiseLine ∈ zT := zT_mem (i := 1015) (by decide +kernel) rfl
theorem kX10_175 : zKV RX10 175 mX10_isNoiseLine 0 := ⟨wlX10_175, wIn_X10_isNoiseLine, wSe_X10_isNoiseLine, wIni_X10, wCo_X10_isNoiseLine, n_X10_isNoiseLine⟩
theorem wCo_X10_hold : Cond.code yX10_hold cX10_hold 2 (none) ∈ zT := zT_mem (i := 1132) (by decide +kernel) rfl
theorem n_X10_hold : zYN mX10_hold 0 := ⟨by decide +kernel, by decide +kernel, by decide +kernel⟩
theorem wIn_X10_hold : Cond.instanceMethod yX10_hold ∈ zT := zT_mem (i := 1131) (by decide +kernel) rfl
theorem wSe_X10_hold : Cond.selects RX10 yX10_hold yX10_hold ∈ zT := zT_memS (i := 51) (by decide +kernel) rfl
theorem wlX10_245 : Cond.methodLink RX10 245 yX10_hold ∈ zT := zT_mem (i := 1129) (by decide +kernel) rfl
theorem kX10_245 : zKV RX10 245 mX10_hold 0 := ⟨wlX10_245, wIn_X10_hold, wSe_X10_hold, wIni_X10, wCo_X10_hold, n_X10_hold⟩
theorem wCo_X10_costNow : Cond.code yX10_costNow cX10_costNow 6 (some .int) ∈ zT := zT_mem (i := 1030) (by decide +kernel) rfl
theorem n_X10_costNow : zYN mX10_costNow 0 := ⟨by decide +kernel, by decide +kernel, by decide +kernel⟩
theorem wIn_X10_costNow : Cond.instanceMethod yX10_costNow ∈ zT := zT_mem (i := 1029) (by decide +kernel) rfl
theorem wSe_X10_costNow : Cond.selects RX10 yX10_costNow yX10_costNow ∈ zT := zT_memS (i := 38) (by decide +kernel) rfl
theorem wlX10_223 : Cond.methodLink RX10 223 yX10_costNow ∈ zT := zT_mem (i := 1027) (by decide +kernel) rfl
theorem kX10_223 : zKV RX10 223 mX10_costNow 0 := ⟨wlX10_223, wIn_X10_costNow, wSe_X10_costNow, wIni_X10, wCo_X10_costNow, n_X10_costNow⟩
theorem wCo_X10_release : Cond.code yX10_release cX10_release 2 (none) ∈ zT := zT_mem (i := 1136) (by decide +kernel) rfl
theorem n_X10_release : zYN mX10_release 0 := ⟨by decide +kernel, by decide +kernel, by decide +kernel⟩
theorem wIn_X10_release : Cond.instanceMethod yX10_release ∈ zT := zT_mem (i := 1135) (by decide +kernel) rfl
theorem wSe_X10_release : Cond.selects RX10 yX10_release yX10_release ∈ zT := zT_memS (i := 52) (by decide +kernel) rfl
theorem wlX10_248 : Cond.methodLink RX10 248 yX10_release ∈ zT := zT_mem (i := 1133) (by decide +kernel) rfl
theorem kX10_248 : zKV RX10 248 mX10_release 0 := ⟨wlX10_248, wIn_X10_release, wSe_X10_release, wIni_X10, wCo_X10_release, n_X10_release⟩
theorem wCo_X10_draw : Cond.code yX10_draw cX10_draw 4 (some .int) ∈ zT := zT_mem (i := 1112) (by decide +kernel) rfl
theorem n_X10_draw : zYN mX10_draw 1 := ⟨by decide +kernel, by decide +kernel, by decide +kernel⟩
theorem wIn_X10_draw : Cond.instanceMethod yX10_draw ∈ zT := zT_mem (i := 1111) (by decide +kernel) rfl
theorem wSe_X10_draw : Cond.selects RX10 yX10_draw yX10_draw ∈ zT := zT_memS (i := 50) (by decide +kernel) rfl
theorem wlX10_242 : Cond.methodLink RX10 242 yX10_draw ∈ zT := zT_mem (i := 1109) (by decide +kernel) rfl
theorem kX10_242 : zKV RX10 242 mX10_draw 1 := ⟨wlX10_242, wIn_X10_draw, wSe_X10_draw, wIni_X10, wCo_X10_draw, n_X10_draw⟩
theorem wCo_X10_layPlaces : Cond.code yX10_layPlaces cX10_layPlaces 5 (some .int) ∈ zT := zT_mem (i := 1164) (by decide +kernel) rfl
theorem n_X10_layPlaces : zYN mX10_layPlaces 1 := ⟨by decide +kernel, by decide +kernel, by decide +kernel⟩
theorem wIn_X10_layPlaces : Cond.instanceMethod yX10_layPlaces ∈ zT := zT_mem (i := 1163) (by decide +kernel) rfl
theorem wSe_X10_layPlaces : Cond.selects RX10 yX10_layPlaces yX10_layPlaces ∈ zT := zT_memS (i := 53) (by decide +kernel) rfl
theorem wlX10_251 : Cond.methodLink RX10 251 yX10_layPlaces ∈ zT := zT_mem (i := 1161) (by decide +kernel) rfl
theorem kX10_251 : zKV RX10 251 mX10_layPlaces 1 := ⟨wlX10_251, wIn_X10_layPlaces, wSe_X10_layPlaces, wIni_X10, wCo_X10_layPlaces, n_X10_layPlaces⟩
theorem wlX5_55 : Cond.methodLink RX5 55 yX1_makeUntold ∈ zT := zT_mem (i := 403) (by decide +kernel) rfl
theorem kX5_55 : zKV RX5 55 mX1_makeUntold 0 := ⟨wlX5_55, wIn_X1_makeUntold, wSe_X1_makeUntold, wIni_X1, wCo_X1_makeUntold, n_X1_makeUntold⟩
theorem wCo_X4_makeUntold : Cond.code yX4_makeUntold cX4_makeUntold 1 (none) ∈ zT := zT_mem (i := 407) (by decide +kernel) rfl
theorem n_X4_makeUntold : zYN mX4_makeUntold 0 := ⟨by decide +kernel, by decide +kernel, by decide +kernel⟩
theorem wIn_X4_makeUntold : Cond.instanceMethod yX4_makeUntold ∈ zT := zT_mem (i := 405) (by decide +kernel) rfl
theorem wSe_X4_makeUntold : Cond.selects RX4 yX4_makeUntold yX4_makeUntold ∈ zT := zT_mem (i := 406) (by decide +kernel) rfl
theorem wlX5_58 : Cond.methodLink RX5 58 yX4_makeUntold ∈ zT := zT_mem (i := 404) (by decide +kernel) rfl
theorem kX5_58 : zKV RX5 58 mX4_makeUntold 0 := ⟨wlX5_58, wIn_X4_makeUntold, wSe_X4_makeUntold, wIni_X4, wCo_X4_makeUntold, n_X4_makeUntold⟩
theorem wlX5_59 : Cond.methodLink RX5 59 yJ7_fill_53178 ∈ zT := zT_mem (i := 408) (by decide +kernel) rfl
theorem kX5_59 : zKS RX5 59 mJ7_fill_53178 2 := ⟨wlX5_59, wSt_J7_fill_53178, wIni_J7, wCo_J7_fill_53178, n_J7_fill_53178⟩
theorem wCo_X5_readClause : Cond.code yX5_readClause cX5_readClause 2 (none) ∈ zT := zT_mem (i := 416) (by decide +kernel) rfl
theorem n_X5_readClause : zYN mX5_readClause 1 := ⟨by decide +kernel, by decide +kernel, by decide +kernel⟩
theorem wIn_X5_readClause : Cond.instanceMethod yX5_readClause ∈ zT := zT_mem (i := 415) (by decide +kernel) rfl
theorem wSe_X5_readClause : Cond.selects RX5 yX5_readClause yX5_readClause ∈ zT := zT_memS (i := 1) (by decide +kernel) rfl
theorem wlX5_68 : Cond.methodLink RX5 68 yX5_readClause ∈ zT := zT_mem (i := 413) (by decide +kernel) rfl
theorem kX5_68 : zKV RX5 68 mX5_readClause 1 := ⟨wlX5_68, wIn_X5_readClause, wSe_X5_readClause, wIni_X5, wCo_X5_readClause, n_X5_readClause⟩
theorem wCo_X0_run : Cond.code yX0_run cX0_run 3 (none) ∈ zT := zT_mem (i := 479) (by decide +kernel) rfl
theorem n_X0_run : zYN mX0_run 1 := ⟨by decide +kernel, by decide +kernel, by decide +kernel⟩
theorem wIn_X0_run : Cond.instanceMethod yX0_run ∈ zT := zT_mem (i := 477) (by decide +kernel) rfl
theorem wSe_X0_run : Cond.selects RX0 yX0_run yX0_run ∈ zT := zT_mem (i := 478) (by decide +kernel) rfl
theorem wlX8_48 : Cond.methodLink RX8 48 yX0_run ∈ zT := zT_mem (i := 645) (by decide +kernel) rfl
theorem kX8_48 : zKV RX8 48 mX0_run 1 := ⟨wlX8_48, wIn_X0_run, wSe_X0_run, wIni_X0, wCo_X0_run, n_X0_run⟩
theorem fX8_137 : zF RX8 137 0 2 := zF.mk (RX0, TX0, 4) 264 rfl rfl (by decide +kernel) rfl
theorem fX8_141 : zF RX8 141 3 0 := zF.mk (RX3, TX3, 6) 230 rfl rfl (by decide +kernel) rfl
theorem wCo_X0_cost : Cond.code yX0_cost cX0_cost 1 (some .int) ∈ zT := zT_mem (i := 549) (by decide +kernel) rfl
theorem n_X0_cost : zYN mX0_cost 0 := ⟨by decide +kernel, by decide +kernel, by decide +kernel⟩
theorem wIn_X0_cost : Cond.instanceMethod yX0_cost ∈ zT := zT_mem (i := 547) (by decide +kernel) rfl
theorem wSe_X0_cost : Cond.selects RX0 yX0_cost yX0_cost ∈ zT := zT_mem (i := 548) (by decide +kernel) rfl
theorem wlX8_53 : Cond.methodLink RX8 53 yX0_cost ∈ zT := zT_mem (i := 646) (by decide +kernel) rfl
theorem kX8_53 : zKV RX8 53 mX0_cost 0 := ⟨wlX8_53, wIn_X0_cost, wSe_X0_cost, wIni_X0, wCo_X0_cost, n_X0_cost⟩
theorem wCo_X9_drawOf : Cond.code yX9_drawOf cX9_drawOf 2 (some .int) ∈ zT := zT_mem (i := 608) (by decide +kernel) rfl
theorem n_X9_drawOf : zYN mX9_drawOf 1 := ⟨by decide +kernel, by decide +kernel, by decide +kernel⟩
theorem wIn_X9_drawOf : Cond.instanceMethod yX9_drawOf ∈ zT := zT_mem (i := 607) (by decide +kernel) rfl
theorem wSe_X9_drawOf : Cond.selects RX9 yX9_drawOf yX9_drawOf ∈ zT := zT_memS (i := 19) (by decide +kernel) rfl
theorem wlX9_183 : Cond.methodLink RX9 183 yX9_drawOf ∈ zT := zT_mem (i := 605) (by decide +kernel) rfl
theorem kX9_183 : zKV RX9 183 mX9_drawOf 1 := ⟨wlX9_183, wIn_X9_drawOf, wSe_X9_drawOf, wIni_X9, wCo_X9_drawOf, n_X9_drawOf⟩
theorem wlX9_113 : Cond.methodLink RX9 113 yX0_run ∈ zT := zT_mem (i := 476) (by decide +kernel) rfl
theorem kX9_113 : zKV RX9 113 mX0_run 1 := ⟨wlX9_113, wIn_X0_run, wSe_X0_run, wIni_X0, wCo_X0_run, n_X0_run⟩
theorem wlX9_123 : Cond.methodLink RX9 123 yX0_cost ∈ zT := zT_mem (i := 546) (by decide +kernel) rfl
theorem kX9_123 : zKV RX9 123 mX0_cost 0 := ⟨wlX9_123, wIn_X0_cost, wSe_X0_cost, wIni_X0, wCo_X0_cost, n_X0_cost⟩
theorem fX9_194 : zF RX9 194 0 2 := zF.mk (RX0, TX0, 4) 263 rfl rfl (by decide +kernel) rfl
theorem fX9_198 : zF RX9 198 3 0 := zF.mk (RX3, TX3, 6) 229 rfl rfl (by decide +kernel) rfl
theorem wCo_X9_noLeaf : Cond.code yX9_noLeaf cX9_noLeaf 1 (some .boolean) ∈ zT := zT_mem (i := 566) (by decide +kernel) rfl
theorem n_X9_noLeaf : zYN mX9_noLeaf 1 := ⟨by decide +kernel, by decide +kernel, by decide +kernel⟩
theorem wSt_X9_noLeaf : Cond.static yX9_noLeaf ∈ zT := zT_mem (i := 565) (by decide +kernel) rfl
theorem wlX9_132 : Cond.methodLink RX9 132 yX9_noLeaf ∈ zT := zT_mem (i := 564) (by decide +kernel) rfl
theorem kX9_132 : zKS RX9 132 mX9_noLeaf 1 := ⟨wlX9_132, wSt_X9_noLeaf, wIni_X9, wCo_X9_noLeaf, n_X9_noLeaf⟩
theorem fX9_137 : zF RX9 137 1 0 := zF.mk (RX1, TX1, 7) 44 rfl rfl (by decide +kernel) rfl
theorem fX9_140 : zF RX9 140 1 1 := zF.mk (RX1, TX1, 7) 48 rfl rfl (by decide +kernel) rfl
theorem fX9_143 : zF RX9 143 0 1 := zF.mk (RX0, TX0, 4) 261 rfl rfl (by decide +kernel) rfl
theorem fX9_147 : zF RX9 147 7 6 := zF.mk (RX7, TX7, 8) 202 rfl rfl (by decide +kernel) rfl
theorem fX9_152 : zF RX9 152 7 7 := zF.mk (RX7, TX7, 8) 204 rfl rfl (by decide +kernel) rfl
theorem wCo_X7_doing : Cond.code yX7_doing cX7_doing 2 (some .int) ∈ zT := zT_mem (i := 624) (by decide +kernel) rfl
theorem n_X7_doing : zYN mX7_doing 1 := ⟨by decide +kernel, by decide +kernel, by decide +kernel⟩
theorem wIn_X7_doing : Cond.instanceMethod yX7_doing ∈ zT := zT_mem (i := 622) (by decide +kernel) rfl
theorem wSe_X7_doing : Cond.selects RX7 yX7_doing yX7_doing ∈ zT := zT_mem (i := 623) (by decide +kernel) rfl
theorem wlX9_217 : Cond.methodLink RX9 217 yX7_doing ∈ zT := zT_mem (i := 621) (by decide +kernel) rfl
theorem kX9_217 : zKV RX9 217 mX7_doing 1 := ⟨wlX9_217, wIn_X7_doing, wSe_X7_doing, wIni_X7, wCo_X7_doing, n_X7_doing⟩
theorem fX9_203 : zF RX9 203 3 1 := zF.mk (RX3, TX3, 6) 233 rfl rfl (by decide +kernel) rfl
theorem fX9_206 : zF RX9 206 3 2 := zF.mk (RX3, TX3, 6) 236 rfl rfl (by decide +kernel) rfl
theorem fX9_208 : zF RX9 208 3 3 := zF.mk (RX3, TX3, 6) 239 rfl rfl (by decide +kernel) rfl
theorem fX9_211 : zF RX9 211 3 4 := zF.mk (RX3, TX3, 6) 242 rfl rfl (by decide +kernel) rfl
theorem fX9_214 : zF RX9 214 3 5 := zF.mk (RX3, TX3, 6) 245 rfl rfl (by decide +kernel) rfl
theorem wlX9_116 : Cond.methodLink RX9 116 yX0_seconds ∈ zT := zT_mem (i := 538) (by decide +kernel) rfl
theorem kX9_116 : zKV RX9 116 mX0_seconds 0 := ⟨wlX9_116, wIn_X0_seconds, wSe_X0_seconds, wIni_X0, wCo_X0_seconds, n_X0_seconds⟩
theorem wlX9_120 : Cond.methodLink RX9 120 yX0_losses ∈ zT := zT_mem (i := 542) (by decide +kernel) rfl
theorem kX9_120 : zKV RX9 120 mX0_losses 0 := ⟨wlX9_120, wIn_X0_losses, wSe_X0_losses, wIni_X0, wCo_X0_losses, n_X0_losses⟩
theorem wCo_X0_howMany : Cond.code yX0_howMany cX0_howMany 4 (some .int) ∈ zT := zT_mem (i := 555) (by decide +kernel) rfl
theorem n_X0_howMany : zYN mX0_howMany 1 := ⟨by decide +kernel, by decide +kernel, by decide +kernel⟩
theorem wIn_X0_howMany : Cond.instanceMethod yX0_howMany ∈ zT := zT_mem (i := 553) (by decide +kernel) rfl
theorem wSe_X0_howMany : Cond.selects RX0 yX0_howMany yX0_howMany ∈ zT := zT_mem (i := 554) (by decide +kernel) rfl
theorem wlX9_126 : Cond.methodLink RX9 126 yX0_howMany ∈ zT := zT_mem (i := 552) (by decide +kernel) rfl
theorem kX9_126 : zKV RX9 126 mX0_howMany 1 := ⟨wlX9_126, wIn_X0_howMany, wSe_X0_howMany, wIni_X0, wCo_X0_howMany, n_X0_howMany⟩
theorem wCo_X0_end : Cond.code yX0_end cX0_end 3 (some .int) ∈ zT := zT_mem (i := 559) (by decide +kernel) rfl
theorem n_X0_end : zYN mX0_end 0 := ⟨by decide +kernel, by decide +kernel, by decide +kernel⟩
theorem wIn_X0_end : Cond.instanceMethod yX0_end ∈ zT := zT_mem (i := 557) (by decide +kernel) rfl
theorem wSe_X0_end : Cond.selects RX0 yX0_end yX0_end ∈ zT := zT_mem (i := 558) (by decide +kernel) rfl
theorem wlX9_129 : Cond.methodLink RX9 129 yX0_end ∈ zT := zT_mem (i := 556) (by decide +kernel) rfl
theorem kX9_129 : zKV RX9 129 mX0_end 0 := ⟨wlX9_129, wIn_X0_end, wSe_X0_end, wIni_X0, wCo_X0_end, n_X0_end⟩
theorem wCo_X10_isRead : Cond.code yX10_isRead cX10_isRead 2 (some .boolean) ∈ zT := zT_mem (i := 986) (by decide +kernel) rfl
theorem n_X10_isRead : zYN mX10_isRead 0 := ⟨by decide +kernel, by decide +kernel, by decide +kernel⟩
theorem wIn_X10_isRead : Cond.instanceMethod yX10_isRead ∈ zT := zT_mem (i := 985) (by decide +kernel) rfl
theorem wSe_X10_isRead : Cond.selects RX10 yX10_isRead yX10_isRead ∈ zT := zT_memS (i := 29) (by decide +kernel) rfl
theorem wlX10_178 : Cond.methodLink RX10 178 yX10_isRead ∈ zT := zT_mem (i := 983) (by decide +kernel) rfl
theorem kX10_178 : zKV RX10 178 mX10_isRead 0 := ⟨wlX10_178, wIn_X10_isRead, wSe_X10_isRead, wIni_X10, wCo_X10_isRead, n_X10_isRead⟩
theorem wCo_X5_read : Cond.code yX5_read cX5_read 2 (none) ∈ zT := zT_mem (i := 402) (by decide +kernel) rfl
theorem n_X5_read : zYN mX5_read 0 := ⟨by decide +kernel, by decide +kernel, by decide +kernel⟩
theorem wIn_X5_read : Cond.instanceMethod yX5_read ∈ zT := zT_mem (i := 400) (by decide +kernel) rfl
theorem wSe_X5_read : Cond.selects RX5 yX5_read yX5_read ∈ zT := zT_mem (i := 401) (by decide +kernel) rfl
theorem wlX9_82 : Cond.methodLink RX9 82 yX5_read ∈ zT := zT_mem (i := 399) (by decide +kernel) rfl
theorem kX9_82 : zKV RX9 82 mX5_read 0 := ⟨wlX9_82, wIn_X5_read, wSe_X5_read, wIni_X5, wCo_X5_read, n_X5_read⟩
theorem fX9_85 : zF RX9 85 5 5 := zF.mk (RX5, TX5, 11) 143 rfl rfl (by decide +kernel) rfl
theorem fX9_88 : zF RX9 88 5 6 := zF.mk (RX5, TX5, 11) 145 rfl rfl (by decide +kernel) rfl
theorem fX9_89 : zF RX9 89 5 0 := zF.mk (RX5, TX5, 11) 135 rfl rfl (by decide +kernel) rfl
theorem wCo_X1_copyFrom : Cond.code yX1_copyFrom cX1_copyFrom 2 (none) ∈ zT := zT_mem (i := 455) (by decide +kernel) rfl
theorem n_X1_copyFrom : zYN mX1_copyFrom 1 := ⟨by decide +kernel, by decide +kernel, by decide +kernel⟩
theorem wIn_X1_copyFrom : Cond.instanceMethod yX1_copyFrom ∈ zT := zT_mem (i := 453) (by decide +kernel) rfl
theorem wSe_X1_copyFrom : Cond.selects RX1 yX1_copyFrom yX1_copyFrom ∈ zT := zT_mem (i := 454) (by decide +kernel) rfl
theorem wlX9_90 : Cond.methodLink RX9 90 yX1_copyFrom ∈ zT := zT_mem (i := 452) (by decide +kernel) rfl
theorem kX9_90 : zKV RX9 90 mX1_copyFrom 1 := ⟨wlX9_90, wIn_X1_copyFrom, wSe_X1_copyFrom, wIni_X1, wCo_X1_copyFrom, n_X1_copyFrom⟩
theorem fX9_93 : zF RX9 93 5 1 := zF.mk (RX5, TX5, 11) 137 rfl rfl (by decide +kernel) rfl
theorem wlX8_61 : Cond.methodLink RX8 61 yJ7_fill_53178 ∈ zT := zT_mem (i := 640) (by decide +kernel) rfl
theorem kX8_61 : zKS RX8 61 mJ7_fill_53178 2 := ⟨wlX8_61, wSt_J7_fill_53178, wIni_J7, wCo_J7_fill_53178, n_J7_fill_53178⟩
theorem wCo_X8_trialCost : Cond.code yX8_trialCost cX8_trialCost 1 (some .int) ∈ zT := zT_mem (i := 644) (by decide +kernel) rfl
theorem n_X8_trialCost : zYN mX8_trialCost 0 := ⟨by decide +kernel, by decide +kernel, by decide +kernel⟩
theorem wIn_X8_trialCost : Cond.instanceMethod yX8_trialCost ∈ zT := zT_mem (i := 643) (by decide +kernel) rfl
theorem wSe_X8_trialCost : Cond.selects RX8 yX8_trialCost yX8_trialCost ∈ zT := zT_memS (i := 20) (by decide +kernel) rfl
theorem wlX8_67 : Cond.methodLink RX8 67 yX8_trialCost ∈ zT := zT_mem (i := 641) (by decide +kernel) rfl
theorem kX8_67 : zKV RX8 67 mX8_trialCost 0 := ⟨wlX8_67, wIn_X8_trialCost, wSe_X8_trialCost, wIni_X8, wCo_X8_trialCost, n_X8_trialCost⟩
theorem fX8_102 : zF RX8 102 4 4 := zF.mk (RX4, TX4, 5) 122 rfl rfl (by decide +kernel) rfl
theorem wCo_X6_gather : Cond.code yX6_gather cX6_gather 5 (none) ∈ zT := zT_mem (i := 718) (by decide +kernel) rfl
theorem n_X6_gather : zYN mX6_gather 3 := ⟨by decide +kernel, by decide +kernel, by decide +kernel⟩
theorem wIn_X6_gather : Cond.instanceMethod yX6_gather ∈ zT := zT_mem (i := 716) (by decide +kernel) rfl
theorem wSe_X6_gather : Cond.selects RX6 yX6_gather yX6_gather ∈ zT := zT_mem (i := 717) (by decide +kernel) rfl
theorem wlX8_105 : Cond.methodLink RX8 105 yX6_gather ∈ zT := zT_mem (i := 715) (by decide +kernel) rfl
theorem kX8_105 : zKV RX8 105 mX6_gather 3 := ⟨wlX8_105, wIn_X6_gather, wSe_X6_gather, wIni_X6, wCo_X6_gather, n_X6_gather⟩
theorem wCo_X6_seatBy : Cond.code yX6_seatBy cX6_seatBy 5 (none) ∈ zT := zT_mem (i := 726) (by decide +kernel) rfl
theorem n_X6_seatBy : zYN mX6_seatBy 1 := ⟨by decide +kernel, by decide +kernel, by decide +kernel⟩
theorem wIn_X6_seatBy : Cond.instanceMethod yX6_seatBy ∈ zT := zT_mem (i := 724) (by decide +kernel) rfl
theorem wSe_X6_seatBy : Cond.selects RX6 yX6_seatBy yX6_seatBy ∈ zT := zT_mem (i := 725) (by decide +kernel) rfl
theorem wlX8_109 : Cond.methodLink RX8 109 yX6_seatBy ∈ zT := zT_mem (i := 723) (by decide +kernel) rfl
theorem kX8_109 : zKV RX8 109 mX6_seatBy 1 := ⟨wlX8_109, wIn_X6_seatBy, wSe_X6_seatBy, wIni_X6, wCo_X6_seatBy, n_X6_seatBy⟩
theorem fX8_112 : zF RX8 112 6 3 := zF.mk (RX6, TX6, 4) 295 rfl rfl (by decide +kernel) rfl
theorem fX8_115 : zF RX8 115 6 0 := zF.mk (RX6, TX6, 4) 290 rfl rfl (by decide +kernel) rfl
theorem wCo_X6_giveTenths : Cond.code yX6_giveTenths cX6_giveTenths 3 (none) ∈ zT := zT_mem (i := 739) (by decide +kernel) rfl
theorem n_X6_giveTenths : zYN mX6_giveTenths 1 := ⟨by decide +kernel, by decide +kernel, by decide +kernel⟩
theorem wIn_X6_giveTenths : Cond.instanceMethod yX6_giveTenths ∈ zT := zT_mem (i := 737) (by decide +kernel) rfl
theorem wSe_X6_giveTenths : Cond.selects RX6 yX6_giveTenths yX6_giveTenths ∈ zT := zT_mem (i := 738) (by decide +kernel) rfl
theorem wlX8_118 : Cond.methodLink RX8 118 yX6_giveTenths ∈ zT := zT_mem (i := 736) (by decide +kernel) rfl
theorem kX8_118 : zKV RX8 118 mX6_giveTenths 1 := ⟨wlX8_118, wIn_X6_giveTenths, wSe_X6_giveTenths, wIni_X6, wCo_X6_giveTenths, n_X6_giveTenths⟩
theorem fX8_99 : zF RX8 99 4 3 := zF.mk (RX4, TX4, 5) 117 rfl rfl (by decide +kernel) rfl
theorem wCo_X8_kindOnOtherLeaf : Cond.code yX8_kindOnOtherLeaf cX8_kindOnOtherLeaf 2 (some .int) ∈ zT := zT_mem (i := 793) (by decide +kernel) rfl
theorem n_X8_kindOnOtherLeaf : zYN mX8_kindOnOtherLeaf 1 := ⟨by decide +kernel, by decide +kernel, by decide +kernel⟩
theorem wIn_X8_kindOnOtherLeaf : Cond.instanceMethod yX8_kindOnOtherLeaf ∈ zT := zT_mem (i := 791) (by decide +kernel) rfl
theorem wSe_X8_kindOnOtherLeaf : Cond.selects RX8 yX8_kindOnOtherLeaf yX8_kindOnOtherLeaf ∈ zT := zT_mem (i := 792) (by decide +kernel) rfl
theorem wlX9_279 : Cond.methodLink RX9 279 yX8_kindOnOtherLeaf ∈ zT := zT_mem (i := 790) (by decide +kernel) rfl
theorem kX9_279 : zKV RX9 279 mX8_kindOnOtherLeaf 1 := ⟨wlX9_279, wIn_X8_kindOnOtherLeaf, wSe_X8_kindOnOtherLeaf, wIni_X8, wCo_X8_kindOnOtherLeaf, n_X8_kindOnOtherLeaf⟩
theorem wCo_X9_toldOfEvening : Cond.code yX9_toldOfEvening cX9_toldOfEvening 2 (some .int) ∈ zT := zT_mem (i := 475) (by decide +kernel) rfl
theorem n_X9_toldOfEvening : zYN mX9_toldOfEvening 1 := ⟨by decide +kernel, by decide +kernel, by decide +kernel⟩
theorem wIn_X9_toldOfEvening : Cond.instanceMethod yX9_toldOfEvening ∈ zT := zT_mem (i := 474) (by decide +kernel) rfl
theorem wSe_X9_toldOfEvening : Cond.selects RX9 yX9_toldOfEvening yX9_toldOfEvening ∈ zT := zT_memS (i := 10) (by decide +kernel) rfl
theorem wlX9_110 : Cond.methodLink RX9 110 yX9_toldOfEvening ∈ zT := zT_mem (i := 472) (by decide +kernel) rfl
theorem kX9_110 : zKV RX9 110 mX9_toldOfEvening 1 := ⟨wlX9_110, wIn_X9_toldOfEvening, wSe_X9_toldOfEvening, wIni_X9, wCo_X9_toldOfEvening, n_X9_toldOfEvening⟩
theorem wCo_X8_startSearch : Cond.code yX8_startSearch cX8_startSearch 1 (none) ∈ zT := zT_mem (i := 658) (by decide +kernel) rfl
theorem n_X8_startSearch : zYN mX8_startSearch 0 := ⟨by decide +kernel, by decide +kernel, by decide +kernel⟩
theorem wIn_X8_startSearch : Cond.instanceMethod yX8_startSearch ∈ zT := zT_mem (i := 657) (by decide +kernel) rfl
theorem wSe_X8_startSearch : Cond.selects RX8 yX8_startSearch yX8_startSearch ∈ zT := zT_memS (i := 21) (by decide +kernel) rfl
theorem wlX8_70 : Cond.methodLink RX8 70 yX8_startSearch ∈ zT := zT_mem (i := 655) (by decide +kernel) rfl
theorem kX8_70 : zKV RX8 70 mX8_startSearch 0 := ⟨wlX8_70, wIn_X8_startSearch, wSe_X8_startSearch, wIni_X8, wCo_X8_startSearch, n_X8_startSearch⟩
theorem wCo_X6_orders : Cond.code yX6_orders cX6_orders 1 (some .int) ∈ zT := zT_mem (i := 751) (by decide +kernel) rfl
theorem n_X6_orders : zYN mX6_orders 0 := ⟨by decide +kernel, by decide +kernel, by decide +kernel⟩
theorem wIn_X6_orders : Cond.instanceMethod yX6_orders ∈ zT := zT_mem (i := 749) (by decide +kernel) rfl
theorem wSe_X6_orders : Cond.selects RX6 yX6_orders yX6_orders ∈ zT := zT_mem (i := 750) (by decide +kernel) rfl
theorem wlX8_121 : Cond.methodLink RX8 121 yX6_orders ∈ zT := zT_mem (i := 748) (by decide +kernel) rfl
theorem kX8_121 : zKV RX8 121 mX6_orders 0 := ⟨wlX8_121, wIn_X6_orders, wSe_X6_orders, wIni_X6, wCo_X6_orders, n_X6_orders⟩
theorem wCo_X8_weigh : Cond.code yX8_weigh cX8_weigh 3 (none) ∈ zT := zT_mem (i := 667) (by decide +kernel) rfl
theorem n_X8_weigh : zYN mX8_weigh 1 := ⟨by decide +kernel, by decide +kernel, by decide +kernel⟩
theorem wIn_X8_weigh : Cond.instanceMethod yX8_weigh ∈ zT := zT_mem (i := 666) (by decide +kernel) rfl
theorem wSe_X8_weigh : Cond.selects RX8 yX8_weigh yX8_weigh ∈ zT := zT_memS (i := 23) (by decide +kernel) rfl
theorem wlX8_82 : Cond.methodLink RX8 82 yX8_weigh ∈ zT := zT_mem (i := 664) (by decide +kernel) rfl
theorem kX8_82 : zKV RX8 82 mX8_weigh 1 := ⟨wlX8_82, wIn_X8_weigh, wSe_X8_weigh, wIni_X8, wCo_X8_weigh, n_X8_weigh⟩
theorem fX8_124 : zF RX8 124 6 1 := zF.mk (RX6, TX6, 4) 292 rfl rfl (by decide +kernel) rfl
theorem wCo_X8_spellRules : Cond.code yX8_spellRules cX8_spellRules 4 (none) ∈ zT := zT_mem (i := 663) (by decide +kernel) rfl
theorem n_X8_spellRules : zYN mX8_spellRules 1 := ⟨by decide +kernel, by decide +kernel, by decide +kernel⟩
theorem wIn_X8_spellRules : Cond.instanceMethod yX8_spellRules ∈ zT := zT_mem (i := 662) (by decide +kernel) rfl
theorem wSe_X8_spellRules : Cond.selects RX8 yX8_spellRules yX8_spellRules ∈ zT := zT_memS (i := 22) (by decide +kernel) rfl
theorem wlX8_78 : Cond.methodLink RX8 78 yX8_spellRules ∈ zT := zT_mem (i := 660) (by decide +kernel) rfl
theorem kX8_78 : zKV RX8 78 mX8_spellRules 1 := ⟨wlX8_78, wIn_X8_spellRules, wSe_X8_spellRules, wIni_X8, wCo_X8_spellRules, n_X8_spellRules⟩
theorem wCo_X8_oneComesAt : Cond.code yX8_oneComesAt cX8_oneComesAt 3 (some .boolean) ∈ zT := zT_mem (i := 687) (by decide +kernel) rfl
theorem n_X8_oneComesAt : zYN mX8_oneComesAt 1 := ⟨by decide +kernel, by decide +kernel, by decide +kernel⟩
theorem wIn_X8_oneComesAt : Cond.instanceMethod yX8_oneComesAt ∈ zT := zT_mem (i := 686) (by decide +kernel) rfl
theorem wSe_X8_oneComesAt : Cond.selects RX8 yX8_oneComesAt yX8_oneComesAt ∈ zT := zT_memS (i := 24) (by decide +kernel) rfl
theorem wlX8_88 : Cond.methodLink RX8 88 yX8_oneComesAt ∈ zT := zT_mem (i := 684) (by decide +kernel) rfl
theorem kX8_88 : zKV RX8 88 mX8_oneComesAt 1 := ⟨wlX8_88, wIn_X8_oneComesAt, wSe_X8_oneComesAt, wIni_X8, wCo_X8_oneComesAt, n_X8_oneComesAt⟩
theorem wCo_X8_changeAt : Cond.code yX8_changeAt cX8_changeAt 5 (none) ∈ zT := zT_mem (i := 691) (by decide +kernel) rfl
theorem n_X8_changeAt : zYN mX8_changeAt 3 := ⟨by decide +kernel, by decide +kernel, by decide +kernel⟩
theorem wIn_X8_changeAt : Cond.instanceMethod yX8_changeAt ∈ zT := zT_mem (i := 690) (by decide +kernel) rfl
theorem wSe_X8_changeAt : Cond.selects RX8 yX8_changeAt yX8_changeAt ∈ zT := zT_memS (i := 25) (by decide +kernel) rfl
theorem wlX8_92 : Cond.methodLink RX8 92 yX8_changeAt ∈ zT := zT_mem (i := 688) (by decide +kernel) rfl
theorem kX8_92 : zKV RX8 92 mX8_changeAt 3 := ⟨wlX8_92, wIn_X8_changeAt, wSe_X8_changeAt, wIni_X8, wCo_X8_changeAt, n_X8_changeAt⟩
theorem fX8_85 : zF RX8 85 4 1 := zF.mk (RX4, TX4, 5) 106 rfl rfl (by decide +kernel) rfl
theorem wCo_X9_noRule : Cond.code yX9_noRule cX9_noRule 1 (some .boolean) ∈ zT := zT_mem (i := 634) (by decide +kernel) rfl
theorem n_X9_noRule : zYN mX9_noRule 1 := ⟨by decide +kernel, by decide +kernel, by decide +kernel⟩
theorem wSt_X9_noRule : Cond.static yX9_noRule ∈ zT := zT_mem (i := 633) (by decide +kernel) rfl
theorem wlX9_220 : Cond.methodLink RX9 220 yX9_noRule ∈ zT := zT_mem (i := 632) (by decide +kernel) rfl
theorem kX9_220 : zKS RX9 220 mX9_noRule 1 := ⟨wlX9_220, wSt_X9_noRule, wIni_X9, wCo_X9_noRule, n_X9_noRule⟩
theorem wCo_X8_allBy : Cond.code yX8_allBy cX8_allBy 2 (some .int) ∈ zT := zT_mem (i := 638) (by decide +kernel) rfl
theorem n_X8_allBy : zYN mX8_allBy 1 := ⟨by decide +kernel, by decide +kernel, by decide +kernel⟩
theorem wIn_X8_allBy : Cond.instanceMethod yX8_allBy ∈ zT := zT_mem (i := 636) (by decide +kernel) rfl
theorem wSe_X8_allBy : Cond.selects RX8 yX8_allBy yX8_allBy ∈ zT := zT_mem (i := 637) (by decide +kernel) rfl
theorem wlX9_223 : Cond.methodLink RX9 223 yX8_allBy ∈ zT := zT_mem (i := 635) (by decide +kernel) rfl
theorem kX9_223 : zKV RX9 223 mX8_allBy 1 := ⟨wlX9_223, wIn_X8_allBy, wSe_X8_allBy, wIni_X8, wCo_X8_allBy, n_X8_allBy⟩
theorem wCo_X8_windowSaves : Cond.code yX8_windowSaves cX8_windowSaves 2 (some .int) ∈ zT := zT_mem (i := 699) (by decide +kernel) rfl
theorem n_X8_windowSaves : zYN mX8_windowSaves 0 := ⟨by decide +kernel, by decide +kernel, by decide +kernel⟩
theorem wIn_X8_windowSaves : Cond.instanceMethod yX8_windowSaves ∈ zT := zT_mem (i := 697) (by decide +kernel) rfl
theorem wSe_X8_windowSaves : Cond.selects RX8 yX8_windowSaves yX8_windowSaves ∈ zT := zT_mem (i := 698) (by decide +kernel) rfl
theorem wlX9_243 : Cond.methodLink RX9 243 yX8_windowSaves ∈ zT := zT_mem (i := 696) (by decide +kernel) rfl
theorem kX9_243 : zKV RX9 243 mX8_windowSaves 0 := ⟨wlX9_243, wIn_X8_windowSaves, wSe_X8_windowSaves, wIni_X8, wCo_X8_windowSaves, n_X8_windowSaves⟩
theorem wCo_X8_quietSaves : Cond.code yX8_quietSaves cX8_quietSaves 2 (some .int) ∈ zT := zT_mem (i := 703) (by decide +kernel) rfl
theorem n_X8_quietSaves : zYN mX8_quietSaves 0 := ⟨by decide +kernel, by decide +kernel, by decide +kernel⟩
theorem wIn_X8_quietSaves : Cond.instanceMethod yX8_quietSaves ∈ zT := zT_mem (i := 701) (by decide +kernel) rfl
theorem wSe_X8_quietSaves : Cond.selects RX8 yX8_quietSaves yX8_quietSaves ∈ zT := zT_mem (i := 702) (by decide +kernel) rfl
theorem wlX9_246 : Cond.methodLink RX9 246 yX8_quietSaves ∈ zT := zT_mem (i := 700) (by decide +kernel) rfl
theorem kX9_246 : zKV RX9 246 mX8_quietSaves 0 := ⟨wlX9_246, wIn_X8_quietSaves, wSe_X8_quietSaves, wIni_X8, wCo_X8_quietSaves, n_X8_quietSaves⟩
theorem wCo_X9_noSide : Cond.code yX9_noSide cX9_noSide 1 (some .boolean) ∈ zT := zT_mem (i := 710) (by decide +kernel) rfl
theorem n_X9_noSide : zYN mX9_noSide 1 := ⟨by decide +kernel, by decide +kernel, by decide +kernel⟩
theorem wSt_X9_noSide : Cond.static yX9_noSide ∈ zT := zT_mem (i := 709) (by decide +kernel) rfl
theorem wlX9_249 : Cond.methodLink RX9 249 yX9_noSide ∈ zT := zT_mem (i := 708) (by decide +kernel) rfl
theorem kX9_249 : zKS RX9 249 mX9_noSide 1 := ⟨wlX9_249, wSt_X9_noSide, wIni_X9, wCo_X9_noSide, n_X9_noSide⟩
theorem wCo_X8_spread : Cond.code yX8_spread cX8_spread 4 (some .int) ∈ zT := zT_mem (i := 714) (by decide +kernel) rfl
theorem n_X8_spread : zYN mX8_spread 2 := ⟨by decide +kernel, by decide +kernel, by decide +kernel⟩
theorem wIn_X8_spread : Cond.instanceMethod yX8_spread ∈ zT := zT_mem (i := 712) (by decide +kernel) rfl
theorem wSe_X8_spread : Cond.selects RX8 yX8_spread yX8_spread ∈ zT := zT_mem (i := 713) (by decide +kernel) rfl
theorem wlX9_252 : Cond.methodLink RX9 252 yX8_spread ∈ zT := zT_mem (i := 711) (by decide +kernel) rfl
theorem kX9_252 : zKV RX9 252 mX8_spread 2 := ⟨wlX9_252, wIn_X8_spread, wSe_X8_spread, wIni_X8, wCo_X8_spread, n_X8_spread⟩
theorem wCo_X8_findKick : Cond.code yX8_findKick cX8_findKick 3 (none) ∈ zT := zT_mem (i := 675) (by decide +kernel) rfl
theorem n_X8_findKick : zYN mX8_findKick 1 := ⟨by decide +kernel, by decide +kernel, by decide +kernel⟩
theorem wIn_X8_findKick : Cond.instanceMethod yX8_findKick ∈ zT := zT_mem (i := 673) (by decide +kernel) rfl
theorem wSe_X8_findKick : Cond.selects RX8 yX8_findKick yX8_findKick ∈ zT := zT_mem (i := 674) (by decide +kernel) rfl
theorem wlX9_229 : Cond.methodLink RX9 229 yX8_findKick ∈ zT := zT_mem (i := 672) (by decide +kernel) rfl
theorem kX9_229 : zKV RX9 229 mX8_findKick 1 := ⟨wlX9_229, wIn_X8_findKick, wSe_X8_findKick, wIni_X8, wCo_X8_findKick, n_X8_findKick⟩
theorem fX9_233 : zF RX9 233 8 5 := zF.mk (RX8, TX8, 7) 311 rfl rfl (by decide +kernel) rfl
theorem fX9_236 : zF RX9 236 8 6 := zF.mk (RX8, TX8, 7) 313 rfl rfl (by decide +kernel) rfl
theorem wCo_X8_bestRules : Cond.code yX8_bestRules cX8_bestRules 4 (some .int) ∈ zT := zT_mem (i := 654) (by decide +kernel) rfl
theorem n_X8_bestRules : zYN mX8_bestRules 1 := ⟨by decide +kernel, by decide +kernel, by decide +kernel⟩
theorem wIn_X8_bestRules : Cond.instanceMethod yX8_bestRules ∈ zT := zT_mem (i := 652) (by decide +kernel) rfl
theorem wSe_X8_bestRules : Cond.selects RX8 yX8_bestRules yX8_bestRules ∈ zT := zT_mem (i := 653) (by decide +kernel) rfl
theorem wlX9_226 : Cond.methodLink RX9 226 yX8_bestRules ∈ zT := zT_mem (i := 651) (by decide +kernel) rfl
theorem kX9_226 : zKV RX9 226 mX8_bestRules 1 := ⟨wlX9_226, wIn_X8_bestRules, wSe_X8_bestRules, wIni_X8, wCo_X8_bestRules, n_X8_bestRules⟩
theorem wCo_X8_findChange : Cond.code yX8_findChange cX8_findChange 4 (none) ∈ zT := zT_mem (i := 683) (by decide +kernel) rfl
theorem n_X8_findChange : zYN mX8_findChange 2 := ⟨by decide +kernel, by decide +kernel, by decide +kernel⟩
theorem wIn_X8_findChange : Cond.instanceMethod yX8_findChange ∈ zT := zT_mem (i := 681) (by decide +kernel) rfl
theorem wSe_X8_findChange : Cond.selects RX8 yX8_findChange yX8_findChange ∈ zT := zT_mem (i := 682) (by decide +kernel) rfl
theorem wlX9_239 : Cond.methodLink RX9 239 yX8_findChange ∈ zT := zT_mem (i := 680) (by decide +kernel) rfl
theorem kX9_239 : zKV RX9 239 mX8_findChange 2 := ⟨wlX9_239, wIn_X8_findChange, wSe_X8_findChange, wIni_X8, wCo_X8_findChange, n_X8_findChange⟩
theorem wCo_X8_bestOrder : Cond.code yX8_bestOrder cX8_bestOrder 4 (some .int) ∈ zT := zT_mem (i := 747) (by decide +kernel) rfl
theorem n_X8_bestOrder : zYN mX8_bestOrder 2 := ⟨by decide +kernel, by decide +kernel, by decide +kernel⟩
theorem wIn_X8_bestOrder : Cond.instanceMethod yX8_bestOrder ∈ zT := zT_mem (i := 745) (by decide +kernel) rfl
theorem wSe_X8_bestOrder : Cond.selects RX8 yX8_bestOrder yX8_bestOrder ∈ zT := zT_mem (i := 746) (by decide +kernel) rfl
theorem wlX9_256 : Cond.methodLink RX9 256 yX8_bestOrder ∈ zT := zT_mem (i := 744) (by decide +kernel) rfl
theorem kX9_256 : zKV RX9 256 mX8_bestOrder 2 := ⟨wlX9_256, wIn_X8_bestOrder, wSe_X8_bestOrder, wIni_X8, wCo_X8_bestOrder, n_X8_bestOrder⟩
theorem llaw_7 : Cond.classLink RL 7 RX9 ∈ zT := zT_mem (i := 15) (by decide +kernel) rfl
theorem wIns_X9 : Cond.instantiable RX9 11 ∈ zT := zT_mem (i := 16) (by decide +kernel) rfl
theorem wCo_X9_init : Cond.code yX9_init cX9_init 2 (none) ∈ zT := zT_mem (i := 19) (by decide +kernel) rfl
theorem n_X9_init : zYN mX9_init 0 := ⟨by decide +kernel, by decide +kernel, by decide +kernel⟩
theorem wIn_X9_init : Cond.instanceMethod yX9_init ∈ zT := zT_mem (i := 18) (by decide +kernel) rfl
theorem wllaw_9 : Cond.methodLink RL 9 yX9_init ∈ zT := zT_mem (i := 17) (by decide +kernel) rfl
theorem klaw_9 : zKI RL 9 mX9_init 0 := ⟨wllaw_9, wIn_X9_init, wIni_X9, wCo_X9_init, n_X9_init, rfl, rfl⟩
theorem llaw_10 : Cond.classLink RL 10 RX10 ∈ zT := zT_mem (i := 821) (by decide +kernel) rfl
theorem wIns_X10 : Cond.instantiable RX10 47 ∈ zT := zT_mem (i := 822) (by decide +kernel) rfl
theorem wCo_X10_init : Cond.code yX10_init cX10_init 1 (none) ∈ zT := zT_mem (i := 825) (by decide +kernel) rfl
theorem n_X10_init : zYN mX10_init 0 := ⟨by decide +kernel, by decide +kernel, by decide +kernel⟩
theorem wIn_X10_init : Cond.instanceMethod yX10_init ∈ zT := zT_mem (i := 824) (by decide +kernel) rfl
theorem wllaw_12 : Cond.methodLink RL 12 yX10_init ∈ zT := zT_mem (i := 823) (by decide +kernel) rfl
theorem klaw_12 : zKI RL 12 mX10_init 0 := ⟨wllaw_12, wIn_X10_init, wIni_X10, wCo_X10_init, n_X10_init, rfl, rfl⟩
theorem wCo_X9_feed : Cond.code yX9_feed cX9_feed 2 (some .int) ∈ zT := zT_mem (i := 388) (by decide +kernel) rfl
theorem n_X9_feed : zYN mX9_feed 1 := ⟨by decide +kernel, by decide +kernel, by decide +kernel⟩
theorem wIn_X9_feed : Cond.instanceMethod yX9_feed ∈ zT := zT_mem (i := 386) (by decide +kernel) rfl
theorem wSe_X9_feed : Cond.selects RX9 yX9_feed yX9_feed ∈ zT := zT_mem (i := 387) (by decide +kernel) rfl
theorem wllaw_13 : Cond.methodLink RL 13 yX9_feed ∈ zT := zT_mem (i := 385) (by decide +kernel) rfl
theorem klaw_13 : zKV RL 13 mX9_feed 1 := ⟨wllaw_13, wIn_X9_feed, wSe_X9_feed, wIni_X9, wCo_X9_feed, n_X9_feed⟩
theorem wCo_X10_feed : Cond.code yX10_feed cX10_feed 2 (some .int) ∈ zT := zT_mem (i := 973) (by decide +kernel) rfl
theorem n_X10_feed : zYN mX10_feed 1 := ⟨by decide +kernel, by decide +kernel, by decide +kernel⟩
theorem wIn_X10_feed : Cond.instanceMethod yX10_feed ∈ zT := zT_mem (i := 971) (by decide +kernel) rfl
theorem wSe_X10_feed : Cond.selects RX10 yX10_feed yX10_feed ∈ zT := zT_mem (i := 972) (by decide +kernel) rfl
theorem wllaw_17 : Cond.methodLink RL 17 yX10_feed ∈ zT := zT_mem (i := 970) (by decide +kernel) rfl
theorem klaw_17 : zKV RL 17 mX10_feed 1 := ⟨wllaw_17, wIn_X10_feed, wSe_X10_feed, wIni_X10, wCo_X10_feed, n_X10_feed⟩
theorem wCo_X9_house : Cond.code yX9_house cX9_house 2 (some .int) ∈ zT := zT_mem (i := 398) (by decide +kernel) rfl
theorem n_X9_house : zYN mX9_house 0 := ⟨by decide +kernel, by decide +kernel, by decide +kernel⟩
theorem wIn_X9_house : Cond.instanceMethod yX9_house ∈ zT := zT_mem (i := 396) (by decide +kernel) rfl
theorem wSe_X9_house : Cond.selects RX9 yX9_house yX9_house ∈ zT := zT_mem (i := 397) (by decide +kernel) rfl
theorem wllaw_18 : Cond.methodLink RL 18 yX9_house ∈ zT := zT_mem (i := 395) (by decide +kernel) rfl
theorem klaw_18 : zKV RL 18 mX9_house 0 := ⟨wllaw_18, wIn_X9_house, wSe_X9_house, wIni_X9, wCo_X9_house, n_X9_house⟩
theorem wCo_X10_house : Cond.code yX10_house cX10_house 3 (some .int) ∈ zT := zT_mem (i := 982) (by decide +kernel) rfl
theorem n_X10_house : zYN mX10_house 0 := ⟨by decide +kernel, by decide +kernel, by decide +kernel⟩
theorem wIn_X10_house : Cond.instanceMethod yX10_house ∈ zT := zT_mem (i := 980) (by decide +kernel) rfl
theorem wSe_X10_house : Cond.selects RX10 yX10_house yX10_house ∈ zT := zT_mem (i := 981) (by decide +kernel) rfl
theorem wllaw_22 : Cond.methodLink RL 22 yX10_house ∈ zT := zT_mem (i := 979) (by decide +kernel) rfl
theorem klaw_22 : zKV RL 22 mX10_house 0 := ⟨wllaw_22, wIn_X10_house, wSe_X10_house, wIni_X10, wCo_X10_house, n_X10_house⟩
theorem wCo_X9_fault : Cond.code yX9_fault cX9_fault 1 (some .int) ∈ zT := zT_mem (i := 467) (by decide +kernel) rfl
theorem n_X9_fault : zYN mX9_fault 0 := ⟨by decide +kernel, by decide +kernel, by decide +kernel⟩
theorem wIn_X9_fault : Cond.instanceMethod yX9_fault ∈ zT := zT_mem (i := 465) (by decide +kernel) rfl
theorem wSe_X9_fault : Cond.selects RX9 yX9_fault yX9_fault ∈ zT := zT_mem (i := 466) (by decide +kernel) rfl
theorem wllaw_23 : Cond.methodLink RL 23 yX9_fault ∈ zT := zT_mem (i := 464) (by decide +kernel) rfl
theorem klaw_23 : zKV RL 23 mX9_fault 0 := ⟨wllaw_23, wIn_X9_fault, wSe_X9_fault, wIni_X9, wCo_X9_fault, n_X9_fault⟩
theorem wCo_X10_fault : Cond.code yX10_fault cX10_fault 1 (some .int) ∈ zT := zT_mem (i := 1022) (by decide +kernel) rfl
theorem n_X10_fault : zYN mX10_fault 0 := ⟨by decide +kernel, by decide +kernel, by decide +kernel⟩
theorem wIn_X10_fault : Cond.instanceMethod yX10_fault ∈ zT := zT_mem (i := 1020) (by decide +kernel) rfl
theorem wSe_X10_fault : Cond.selects RX10 yX10_fault yX10_fault ∈ zT := zT_mem (i := 1021) (by decide +kernel) rfl
theorem wllaw_26 : Cond.methodLink RL 26 yX10_fault ∈ zT := zT_mem (i := 1019) (by decide +kernel) rfl
theorem klaw_26 : zKV RL 26 mX10_fault 0 := ⟨wllaw_26, wIn_X10_fault, wSe_X10_fault, wIni_X10, wCo_X10_fault, n_X10_fault⟩
theorem wCo_X9_told : Cond.code yX9_told cX9_told 2 (some .int) ∈ zT := zT_mem (i := 471) (by decide +kernel) rfl
theorem n_X9_told : zYN mX9_told 1 := ⟨by decide +kernel, by decide +kernel, by decide +kernel⟩
theorem wIn_X9_told : Cond.instanceMethod yX9_told ∈ zT := zT_mem (i := 469) (by decide +kernel) rfl
theorem wSe_X9_told : Cond.selects RX9 yX9_told yX9_told ∈ zT := zT_mem (i := 470) (by decide +kernel) rfl
theorem wllaw_27 : Cond.methodLink RL 27 yX9_told ∈ zT := zT_mem (i := 468) (by decide +kernel) rfl
theorem klaw_27 : zKV RL 27 mX9_told 1 := ⟨wllaw_27, wIn_X9_told, wSe_X9_told, wIni_X9, wCo_X9_told, n_X9_told⟩
theorem wCo_X10_told : Cond.code yX10_told cX10_told 7 (some .int) ∈ zT := zT_mem (i := 1026) (by decide +kernel) rfl
theorem n_X10_told : zYN mX10_told 1 := ⟨by decide +kernel, by decide +kernel, by decide +kernel⟩
theorem wIn_X10_told : Cond.instanceMethod yX10_told ∈ zT := zT_mem (i := 1024) (by decide +kernel) rfl
theorem wSe_X10_told : Cond.selects RX10 yX10_told yX10_told ∈ zT := zT_mem (i := 1025) (by decide +kernel) rfl
theorem wllaw_30 : Cond.methodLink RL 30 yX10_told ∈ zT := zT_mem (i := 1023) (by decide +kernel) rfl
theorem klaw_30 : zKV RL 30 mX10_told 1 := ⟨wllaw_30, wIn_X10_told, wSe_X10_told, wIni_X10, wCo_X10_told, n_X10_told⟩
theorem wCo_X9_leaf : Cond.code yX9_leaf cX9_leaf 3 (some .int) ∈ zT := zT_mem (i := 563) (by decide +kernel) rfl
theorem n_X9_leaf : zYN mX9_leaf 2 := ⟨by decide +kernel, by decide +kernel, by decide +kernel⟩
theorem wIn_X9_leaf : Cond.instanceMethod yX9_leaf ∈ zT := zT_mem (i := 561) (by decide +kernel) rfl
theorem wSe_X9_leaf : Cond.selects RX9 yX9_leaf yX9_leaf ∈ zT := zT_mem (i := 562) (by decide +kernel) rfl
theorem wllaw_31 : Cond.methodLink RL 31 yX9_leaf ∈ zT := zT_mem (i := 560) (by decide +kernel) rfl
theorem klaw_31 : zKV RL 31 mX9_leaf 2 := ⟨wllaw_31, wIn_X9_leaf, wSe_X9_leaf, wIni_X9, wCo_X9_leaf, n_X9_leaf⟩
theorem wCo_X10_leaf : Cond.code yX10_leaf cX10_leaf 3 (some .int) ∈ zT := zT_mem (i := 1070) (by decide +kernel) rfl
theorem n_X10_leaf : zYN mX10_leaf 2 := ⟨by decide +kernel, by decide +kernel, by decide +kernel⟩
theorem wIn_X10_leaf : Cond.instanceMethod yX10_leaf ∈ zT := zT_mem (i := 1068) (by decide +kernel) rfl
theorem wSe_X10_leaf : Cond.selects RX10 yX10_leaf yX10_leaf ∈ zT := zT_mem (i := 1069) (by decide +kernel) rfl
theorem wllaw_35 : Cond.methodLink RL 35 yX10_leaf ∈ zT := zT_mem (i := 1067) (by decide +kernel) rfl
theorem klaw_35 : zKV RL 35 mX10_leaf 2 := ⟨wllaw_35, wIn_X10_leaf, wSe_X10_leaf, wIni_X10, wCo_X10_leaf, n_X10_leaf⟩
theorem wCo_X9_waiter : Cond.code yX9_waiter cX9_waiter 3 (some .int) ∈ zT := zT_mem (i := 571) (by decide +kernel) rfl
theorem n_X9_waiter : zYN mX9_waiter 2 := ⟨by decide +kernel, by decide +kernel, by decide +kernel⟩
theorem wIn_X9_waiter : Cond.instanceMethod yX9_waiter ∈ zT := zT_mem (i := 569) (by decide +kernel) rfl
theorem wSe_X9_waiter : Cond.selects RX9 yX9_waiter yX9_waiter ∈ zT := zT_mem (i := 570) (by decide +kernel) rfl
theorem wllaw_36 : Cond.methodLink RL 36 yX9_waiter ∈ zT := zT_mem (i := 568) (by decide +kernel) rfl
theorem klaw_36 : zKV RL 36 mX9_waiter 2 := ⟨wllaw_36, wIn_X9_waiter, wSe_X9_waiter, wIni_X9, wCo_X9_waiter, n_X9_waiter⟩
theorem wCo_X10_waiter : Cond.code yX10_waiter cX10_waiter 3 (some .int) ∈ zT := zT_mem (i := 1075) (by decide +kernel) rfl
theorem n_X10_waiter : zYN mX10_waiter 2 := ⟨by decide +kernel, by decide +kernel, by decide +kernel⟩
theorem wIn_X10_waiter : Cond.instanceMethod yX10_waiter ∈ zT := zT_mem (i := 1073) (by decide +kernel) rfl
theorem wSe_X10_waiter : Cond.selects RX10 yX10_waiter yX10_waiter ∈ zT := zT_mem (i := 1074) (by decide +kernel) rfl
theorem wllaw_39 : Cond.methodLink RL 39 yX10_waiter ∈ zT := zT_mem (i := 1072) (by decide +kernel) rfl
theorem klaw_39 : zKV RL 39 mX10_waiter 2 := ⟨wllaw_39, wIn_X10_waiter, wSe_X10_waiter, wIni_X10, wCo_X10_waiter, n_X10_waiter⟩
theorem wCo_X9_come : Cond.code yX9_come cX9_come 3 (some .int) ∈ zT := zT_mem (i := 579) (by decide +kernel) rfl
theorem n_X9_come : zYN mX9_come 2 := ⟨by decide +kernel, by decide +kernel, by decide +kernel⟩
theorem wIn_X9_come : Cond.instanceMethod yX9_come ∈ zT := zT_mem (i := 577) (by decide +kernel) rfl
theorem wSe_X9_come : Cond.selects RX9 yX9_come yX9_come ∈ zT := zT_mem (i := 578) (by decide +kernel) rfl
theorem wllaw_40 : Cond.methodLink RL 40 yX9_come ∈ zT := zT_mem (i := 576) (by decide +kernel) rfl
theorem klaw_40 : zKV RL 40 mX9_come 2 := ⟨wllaw_40, wIn_X9_come, wSe_X9_come, wIni_X9, wCo_X9_come, n_X9_come⟩
theorem wCo_X10_come : Cond.code yX10_come cX10_come 3 (some .int) ∈ zT := zT_mem (i := 1083) (by decide +kernel) rfl
theorem n_X10_come : zYN mX10_come 2 := ⟨by decide +kernel, by decide +kernel, by decide +kernel⟩
theorem wIn_X10_come : Cond.instanceMethod yX10_come ∈ zT := zT_mem (i := 1081) (by decide +kernel) rfl
theorem wSe_X10_come : Cond.selects RX10 yX10_come yX10_come ∈ zT := zT_mem (i := 1082) (by decide +kernel) rfl
theorem wllaw_43 : Cond.methodLink RL 43 yX10_come ∈ zT := zT_mem (i := 1080) (by decide +kernel) rfl
theorem klaw_43 : zKV RL 43 mX10_come 2 := ⟨wllaw_43, wIn_X10_come, wSe_X10_come, wIni_X10, wCo_X10_come, n_X10_come⟩
theorem wCo_X9_rule : Cond.code yX9_rule cX9_rule 3 (some .int) ∈ zT := zT_mem (i := 587) (by decide +kernel) rfl
theorem n_X9_rule : zYN mX9_rule 2 := ⟨by decide +kernel, by decide +kernel, by decide +kernel⟩
theorem wIn_X9_rule : Cond.instanceMethod yX9_rule ∈ zT := zT_mem (i := 585) (by decide +kernel) rfl
theorem wSe_X9_rule : Cond.selects RX9 yX9_rule yX9_rule ∈ zT := zT_mem (i := 586) (by decide +kernel) rfl
theorem wllaw_44 : Cond.methodLink RL 44 yX9_rule ∈ zT := zT_mem (i := 584) (by decide +kernel) rfl
theorem klaw_44 : zKV RL 44 mX9_rule 2 := ⟨wllaw_44, wIn_X9_rule, wSe_X9_rule, wIni_X9, wCo_X9_rule, n_X9_rule⟩
theorem wCo_X10_rule : Cond.code yX10_rule cX10_rule 3 (some .int) ∈ zT := zT_mem (i := 1091) (by decide +kernel) rfl
theorem n_X10_rule : zYN mX10_rule 2 := ⟨by decide +kernel, by decide +kernel, by decide +kernel⟩
theorem wIn_X10_rule : Cond.instanceMethod yX10_rule ∈ zT := zT_mem (i := 1089) (by decide +kernel) rfl
theorem wSe_X10_rule : Cond.selects RX10 yX10_rule yX10_rule ∈ zT := zT_mem (i := 1090) (by decide +kernel) rfl
theorem wllaw_47 : Cond.methodLink RL 47 yX10_rule ∈ zT := zT_mem (i := 1088) (by decide +kernel) rfl
theorem klaw_47 : zKV RL 47 mX10_rule 2 := ⟨wllaw_47, wIn_X10_rule, wSe_X10_rule, wIni_X10, wCo_X10_rule, n_X10_rule⟩
theorem wCo_X9_kick : Cond.code yX9_kick cX9_kick 3 (some .int) ∈ zT := zT_mem (i := 591) (by decide +kernel) rfl
theorem n_X9_kick : zYN mX9_kick 2 := ⟨by decide +kernel, by decide +kernel, by decide +kernel⟩
theorem wIn_X9_kick : Cond.instanceMethod yX9_kick ∈ zT := zT_mem (i := 589) (by decide +kernel) rfl
theorem wSe_X9_kick : Cond.selects RX9 yX9_kick yX9_kick ∈ zT := zT_mem (i := 590) (by decide +kernel) rfl
theorem wllaw_48 : Cond.methodLink RL 48 yX9_kick ∈ zT := zT_mem (i := 588) (by decide +kernel) rfl
theorem klaw_48 : zKV RL 48 mX9_kick 2 := ⟨wllaw_48, wIn_X9_kick, wSe_X9_kick, wIni_X9, wCo_X9_kick, n_X9_kick⟩
theorem wCo_X10_kick : Cond.code yX10_kick cX10_kick 3 (some .int) ∈ zT := zT_mem (i := 1095) (by decide +kernel) rfl
theorem n_X10_kick : zYN mX10_kick 2 := ⟨by decide +kernel, by decide +kernel, by decide +kernel⟩
theorem wIn_X10_kick : Cond.instanceMethod yX10_kick ∈ zT := zT_mem (i := 1093) (by decide +kernel) rfl
theorem wSe_X10_kick : Cond.selects RX10 yX10_kick yX10_kick ∈ zT := zT_mem (i := 1094) (by decide +kernel) rfl
theorem wllaw_51 : Cond.methodLink RL 51 yX10_kick ∈ zT := zT_mem (i := 1092) (by decide +kernel) rfl
theorem klaw_51 : zKV RL 51 mX10_kick 2 := ⟨wllaw_51, wIn_X10_kick, wSe_X10_kick, wIni_X10, wCo_X10_kick, n_X10_kick⟩
theorem wCo_X9_glass : Cond.code yX9_glass cX9_glass 3 (some .int) ∈ zT := zT_mem (i := 595) (by decide +kernel) rfl
theorem n_X9_glass : zYN mX9_glass 1 := ⟨by decide +kernel, by decide +kernel, by decide +kernel⟩
theorem wIn_X9_glass : Cond.instanceMethod yX9_glass ∈ zT := zT_mem (i := 593) (by decide +kernel) rfl
theorem wSe_X9_glass : Cond.selects RX9 yX9_glass yX9_glass ∈ zT := zT_mem (i := 594) (by decide +kernel) rfl
theorem wllaw_52 : Cond.methodLink RL 52 yX9_glass ∈ zT := zT_mem (i := 592) (by decide +kernel) rfl
theorem klaw_52 : zKV RL 52 mX9_glass 1 := ⟨wllaw_52, wIn_X9_glass, wSe_X9_glass, wIni_X9, wCo_X9_glass, n_X9_glass⟩
theorem wCo_X10_glass : Cond.code yX10_glass cX10_glass 2 (some .int) ∈ zT := zT_mem (i := 1099) (by decide +kernel) rfl
theorem n_X10_glass : zYN mX10_glass 1 := ⟨by decide +kernel, by decide +kernel, by decide +kernel⟩
theorem wIn_X10_glass : Cond.instanceMethod yX10_glass ∈ zT := zT_mem (i := 1097) (by decide +kernel) rfl
theorem wSe_X10_glass : Cond.selects RX10 yX10_glass yX10_glass ∈ zT := zT_mem (i := 1098) (by decide +kernel) rfl
theorem wllaw_56 : Cond.methodLink RL 56 yX10_glass ∈ zT := zT_mem (i := 1096) (by decide +kernel) rfl
theorem klaw_56 : zKV RL 56 mX10_glass 1 := ⟨wllaw_56, wIn_X10_glass, wSe_X10_glass, wIni_X10, wCo_X10_glass, n_X10_glass⟩
theorem wCo_X9_noise : Cond.code yX9_noise cX9_noise 3 (some .int) ∈ zT := zT_mem (i := 599) (by decide +kernel) rfl
theorem n_X9_noise : zYN mX9_noise 1 := ⟨by decide +kernel, by decide +kernel, by decide +kernel⟩
theorem wIn_X9_noise : Cond.instanceMethod yX9_noise ∈ zT := zT_mem (i := 597) (by decide +kernel) rfl
theorem wSe_X9_noise : Cond.selects RX9 yX9_noise yX9_noise ∈ zT := zT_mem (i := 598) (by decide +kernel) rfl
theorem wllaw_57 : Cond.methodLink RL 57 yX9_noise ∈ zT := zT_mem (i := 596) (by decide +kernel) rfl
theorem klaw_57 : zKV RL 57 mX9_noise 1 := ⟨wllaw_57, wIn_X9_noise, wSe_X9_noise, wIni_X9, wCo_X9_noise, n_X9_noise⟩
theorem wCo_X10_noise : Cond.code yX10_noise cX10_noise 2 (some .int) ∈ zT := zT_mem (i := 1103) (by decide +kernel) rfl
theorem n_X10_noise : zYN mX10_noise 1 := ⟨by decide +kernel, by decide +kernel, by decide +kernel⟩
theorem wIn_X10_noise : Cond.instanceMethod yX10_noise ∈ zT := zT_mem (i := 1101) (by decide +kernel) rfl
theorem wSe_X10_noise : Cond.selects RX10 yX10_noise yX10_noise ∈ zT := zT_mem (i := 1102) (by decide +kernel) rfl
theorem wllaw_60 : Cond.methodLink RL 60 yX10_noise ∈ zT := zT_mem (i := 1100) (by decide +kernel) rfl
theorem klaw_60 : zKV RL 60 mX10_noise 1 := ⟨wllaw_60, wIn_X10_noise, wSe_X10_noise, wIni_X10, wCo_X10_noise, n_X10_noise⟩
theorem wCo_X9_drift : Cond.code yX9_drift cX9_drift 5 (some .int) ∈ zT := zT_mem (i := 603) (by decide +kernel) rfl
theorem n_X9_drift : zYN mX9_drift 1 := ⟨by decide +kernel, by decide +kernel, by decide +kernel⟩
theorem wIn_X9_drift : Cond.instanceMethod yX9_drift ∈ zT := zT_mem (i := 601) (by decide +kernel) rfl
theorem wSe_X9_drift : Cond.selects RX9 yX9_drift yX9_drift ∈ zT := zT_mem (i := 602) (by decide +kernel) rfl
theorem wllaw_61 : Cond.methodLink RL 61 yX9_drift ∈ zT := zT_mem (i := 600) (by decide +kernel) rfl
theorem klaw_61 : zKV RL 61 mX9_drift 1 := ⟨wllaw_61, wIn_X9_drift, wSe_X9_drift, wIni_X9, wCo_X9_drift, n_X9_drift⟩
theorem wCo_X10_drift : Cond.code yX10_drift cX10_drift 5 (some .int) ∈ zT := zT_mem (i := 1107) (by decide +kernel) rfl
theorem n_X10_drift : zYN mX10_drift 1 := ⟨by decide +kernel, by decide +kernel, by decide +kernel⟩
theorem wIn_X10_drift : Cond.instanceMethod yX10_drift ∈ zT := zT_mem (i := 1105) (by decide +kernel) rfl
theorem wSe_X10_drift : Cond.selects RX10 yX10_drift yX10_drift ∈ zT := zT_mem (i := 1106) (by decide +kernel) rfl
theorem wllaw_64 : Cond.methodLink RL 64 yX10_drift ∈ zT := zT_mem (i := 1104) (by decide +kernel) rfl
theorem klaw_64 : zKV RL 64 mX10_drift 1 := ⟨wllaw_64, wIn_X10_drift, wSe_X10_drift, wIni_X10, wCo_X10_drift, n_X10_drift⟩
theorem wCo_X9_pass : Cond.code yX9_pass cX9_pass 4 (some .int) ∈ zT := zT_mem (i := 616) (by decide +kernel) rfl
theorem n_X9_pass : zYN mX9_pass 2 := ⟨by decide +kernel, by decide +kernel, by decide +kernel⟩
theorem wIn_X9_pass : Cond.instanceMethod yX9_pass ∈ zT := zT_mem (i := 614) (by decide +kernel) rfl
theorem wSe_X9_pass : Cond.selects RX9 yX9_pass yX9_pass ∈ zT := zT_mem (i := 615) (by decide +kernel) rfl
theorem wllaw_65 : Cond.methodLink RL 65 yX9_pass ∈ zT := zT_mem (i := 613) (by decide +kernel) rfl
theorem klaw_65 : zKV RL 65 mX9_pass 2 := ⟨wllaw_65, wIn_X9_pass, wSe_X9_pass, wIni_X9, wCo_X9_pass, n_X9_pass⟩
theorem wCo_X10_pass : Cond.code yX10_pass cX10_pass 3 (some .int) ∈ zT := zT_mem (i := 1120) (by decide +kernel) rfl
theorem n_X10_pass : zYN mX10_pass 2 := ⟨by decide +kernel, by decide +kernel, by decide +kernel⟩
theorem wIn_X10_pass : Cond.instanceMethod yX10_pass ∈ zT := zT_mem (i := 1118) (by decide +kernel) rfl
theorem wSe_X10_pass : Cond.selects RX10 yX10_pass yX10_pass ∈ zT := zT_mem (i := 1119) (by decide +kernel) rfl
theorem wllaw_68 : Cond.methodLink RL 68 yX10_pass ∈ zT := zT_mem (i := 1117) (by decide +kernel) rfl
theorem klaw_68 : zKV RL 68 mX10_pass 2 := ⟨wllaw_68, wIn_X10_pass, wSe_X10_pass, wIni_X10, wCo_X10_pass, n_X10_pass⟩
theorem wCo_X9_leafAt : Cond.code yX9_leafAt cX9_leafAt 3 (some .int) ∈ zT := zT_mem (i := 620) (by decide +kernel) rfl
theorem n_X9_leafAt : zYN mX9_leafAt 2 := ⟨by decide +kernel, by decide +kernel, by decide +kernel⟩
theorem wIn_X9_leafAt : Cond.instanceMethod yX9_leafAt ∈ zT := zT_mem (i := 618) (by decide +kernel) rfl
theorem wSe_X9_leafAt : Cond.selects RX9 yX9_leafAt yX9_leafAt ∈ zT := zT_mem (i := 619) (by decide +kernel) rfl
theorem wllaw_69 : Cond.methodLink RL 69 yX9_leafAt ∈ zT := zT_mem (i := 617) (by decide +kernel) rfl
theorem klaw_69 : zKV RL 69 mX9_leafAt 2 := ⟨wllaw_69, wIn_X9_leafAt, wSe_X9_leafAt, wIni_X9, wCo_X9_leafAt, n_X9_leafAt⟩
theorem wCo_X10_leafAt : Cond.code yX10_leafAt cX10_leafAt 3 (some .int) ∈ zT := zT_mem (i := 1124) (by decide +kernel) rfl
theorem n_X10_leafAt : zYN mX10_leafAt 2 := ⟨by decide +kernel, by decide +kernel, by decide +kernel⟩
theorem wIn_X10_leafAt : Cond.instanceMethod yX10_leafAt ∈ zT := zT_mem (i := 1122) (by decide +kernel) rfl
theorem wSe_X10_leafAt : Cond.selects RX10 yX10_leafAt yX10_leafAt ∈ zT := zT_mem (i := 1123) (by decide +kernel) rfl
theorem wllaw_72 : Cond.methodLink RL 72 yX10_leafAt ∈ zT := zT_mem (i := 1121) (by decide +kernel) rfl
theorem klaw_72 : zKV RL 72 mX10_leafAt 2 := ⟨wllaw_72, wIn_X10_leafAt, wSe_X10_leafAt, wIni_X10, wCo_X10_leafAt, n_X10_leafAt⟩
theorem wCo_X9_all : Cond.code yX9_all cX9_all 2 (some .int) ∈ zT := zT_mem (i := 631) (by decide +kernel) rfl
theorem n_X9_all : zYN mX9_all 1 := ⟨by decide +kernel, by decide +kernel, by decide +kernel⟩
theorem wIn_X9_all : Cond.instanceMethod yX9_all ∈ zT := zT_mem (i := 629) (by decide +kernel) rfl
theorem wSe_X9_all : Cond.selects RX9 yX9_all yX9_all ∈ zT := zT_mem (i := 630) (by decide +kernel) rfl
theorem wllaw_73 : Cond.methodLink RL 73 yX9_all ∈ zT := zT_mem (i := 628) (by decide +kernel) rfl
theorem klaw_73 : zKV RL 73 mX9_all 1 := ⟨wllaw_73, wIn_X9_all, wSe_X9_all, wIni_X9, wCo_X9_all, n_X9_all⟩
theorem wCo_X10_all : Cond.code yX10_all cX10_all 3 (some .int) ∈ zT := zT_mem (i := 1128) (by decide +kernel) rfl
theorem n_X10_all : zYN mX10_all 1 := ⟨by decide +kernel, by decide +kernel, by decide +kernel⟩
theorem wIn_X10_all : Cond.instanceMethod yX10_all ∈ zT := zT_mem (i := 1126) (by decide +kernel) rfl
theorem wSe_X10_all : Cond.selects RX10 yX10_all yX10_all ∈ zT := zT_mem (i := 1127) (by decide +kernel) rfl
theorem wllaw_76 : Cond.methodLink RL 76 yX10_all ∈ zT := zT_mem (i := 1125) (by decide +kernel) rfl
theorem klaw_76 : zKV RL 76 mX10_all 1 := ⟨wllaw_76, wIn_X10_all, wSe_X10_all, wIni_X10, wCo_X10_all, n_X10_all⟩
theorem wCo_X9_best : Cond.code yX9_best cX9_best 2 (some .int) ∈ zT := zT_mem (i := 650) (by decide +kernel) rfl
theorem n_X9_best : zYN mX9_best 1 := ⟨by decide +kernel, by decide +kernel, by decide +kernel⟩
theorem wIn_X9_best : Cond.instanceMethod yX9_best ∈ zT := zT_mem (i := 648) (by decide +kernel) rfl
theorem wSe_X9_best : Cond.selects RX9 yX9_best yX9_best ∈ zT := zT_mem (i := 649) (by decide +kernel) rfl
theorem wllaw_77 : Cond.methodLink RL 77 yX9_best ∈ zT := zT_mem (i := 647) (by decide +kernel) rfl
theorem klaw_77 : zKV RL 77 mX9_best 1 := ⟨wllaw_77, wIn_X9_best, wSe_X9_best, wIni_X9, wCo_X9_best, n_X9_best⟩
theorem wCo_X10_best : Cond.code yX10_best cX10_best 8 (some .int) ∈ zT := zT_mem (i := 1140) (by decide +kernel) rfl
theorem n_X10_best : zYN mX10_best 1 := ⟨by decide +kernel, by decide +kernel, by decide +kernel⟩
theorem wIn_X10_best : Cond.instanceMethod yX10_best ∈ zT := zT_mem (i := 1138) (by decide +kernel) rfl
theorem wSe_X10_best : Cond.selects RX10 yX10_best yX10_best ∈ zT := zT_mem (i := 1139) (by decide +kernel) rfl
theorem wllaw_80 : Cond.methodLink RL 80 yX10_best ∈ zT := zT_mem (i := 1137) (by decide +kernel) rfl
theorem klaw_80 : zKV RL 80 mX10_best 1 := ⟨wllaw_80, wIn_X10_best, wSe_X10_best, wIni_X10, wCo_X10_best, n_X10_best⟩
theorem wCo_X9_bestKick : Cond.code yX9_bestKick cX9_bestKick 3 (some .int) ∈ zT := zT_mem (i := 671) (by decide +kernel) rfl
theorem n_X9_bestKick : zYN mX9_bestKick 2 := ⟨by decide +kernel, by decide +kernel, by decide +kernel⟩
theorem wIn_X9_bestKick : Cond.instanceMethod yX9_bestKick ∈ zT := zT_mem (i := 669) (by decide +kernel) rfl
theorem wSe_X9_bestKick : Cond.selects RX9 yX9_bestKick yX9_bestKick ∈ zT := zT_mem (i := 670) (by decide +kernel) rfl
theorem wllaw_81 : Cond.methodLink RL 81 yX9_bestKick ∈ zT := zT_mem (i := 668) (by decide +kernel) rfl
theorem klaw_81 : zKV RL 81 mX9_bestKick 2 := ⟨wllaw_81, wIn_X9_bestKick, wSe_X9_bestKick, wIni_X9, wCo_X9_bestKick, n_X9_bestKick⟩
theorem wCo_X10_bestKick : Cond.code yX10_bestKick cX10_bestKick 8 (some .int) ∈ zT := zT_mem (i := 1144) (by decide +kernel) rfl
theorem n_X10_bestKick : zYN mX10_bestKick 2 := ⟨by decide +kernel, by decide +kernel, by decide +kernel⟩
theorem wIn_X10_bestKick : Cond.instanceMethod yX10_bestKick ∈ zT := zT_mem (i := 1142) (by decide +kernel) rfl
theorem wSe_X10_bestKick : Cond.selects RX10 yX10_bestKick yX10_bestKick ∈ zT := zT_mem (i := 1143) (by decide +kernel) rfl
theorem wllaw_84 : Cond.methodLink RL 84 yX10_bestKick ∈ zT := zT_mem (i := 1141) (by decide +kernel) rfl
theorem klaw_84 : zKV RL 84 mX10_bestKick 2 := ⟨wllaw_84, wIn_X10_bestKick, wSe_X10_bestKick, wIni_X10, wCo_X10_bestKick, n_X10_bestKick⟩
theorem wCo_X9_change : Cond.code yX9_change cX9_change 4 (some .int) ∈ zT := zT_mem (i := 679) (by decide +kernel) rfl
theorem n_X9_change : zYN mX9_change 3 := ⟨by decide +kernel, by decide +kernel, by decide +kernel⟩
theorem wIn_X9_change : Cond.instanceMethod yX9_change ∈ zT := zT_mem (i := 677) (by decide +kernel) rfl
theorem wSe_X9_change : Cond.selects RX9 yX9_change yX9_change ∈ zT := zT_mem (i := 678) (by decide +kernel) rfl
theorem wllaw_85 : Cond.methodLink RL 85 yX9_change ∈ zT := zT_mem (i := 676) (by decide +kernel) rfl
theorem klaw_85 : zKV RL 85 mX9_change 3 := ⟨wllaw_85, wIn_X9_change, wSe_X9_change, wIni_X9, wCo_X9_change, n_X9_change⟩
theorem wCo_X10_change : Cond.code yX10_change cX10_change 9 (some .int) ∈ zT := zT_mem (i := 1148) (by decide +kernel) rfl
theorem n_X10_change : zYN mX10_change 3 := ⟨by decide +kernel, by decide +kernel, by decide +kernel⟩
theorem wIn_X10_change : Cond.instanceMethod yX10_change ∈ zT := zT_mem (i := 1146) (by decide +kernel) rfl
theorem wSe_X10_change : Cond.selects RX10 yX10_change yX10_change ∈ zT := zT_mem (i := 1147) (by decide +kernel) rfl
theorem wllaw_89 : Cond.methodLink RL 89 yX10_change ∈ zT := zT_mem (i := 1145) (by decide +kernel) rfl
theorem klaw_89 : zKV RL 89 mX10_change 3 := ⟨wllaw_89, wIn_X10_change, wSe_X10_change, wIni_X10, wCo_X10_change, n_X10_change⟩
theorem wCo_X9_worth : Cond.code yX9_worth cX9_worth 3 (some .int) ∈ zT := zT_mem (i := 695) (by decide +kernel) rfl
theorem n_X9_worth : zYN mX9_worth 2 := ⟨by decide +kernel, by decide +kernel, by decide +kernel⟩
theorem wIn_X9_worth : Cond.instanceMethod yX9_worth ∈ zT := zT_mem (i := 693) (by decide +kernel) rfl
theorem wSe_X9_worth : Cond.selects RX9 yX9_worth yX9_worth ∈ zT := zT_mem (i := 694) (by decide +kernel) rfl
theorem wllaw_90 : Cond.methodLink RL 90 yX9_worth ∈ zT := zT_mem (i := 692) (by decide +kernel) rfl
theorem klaw_90 : zKV RL 90 mX9_worth 2 := ⟨wllaw_90, wIn_X9_worth, wSe_X9_worth, wIni_X9, wCo_X9_worth, n_X9_worth⟩
theorem wCo_X10_worth : Cond.code yX10_worth cX10_worth 5 (some .int) ∈ zT := zT_mem (i := 1152) (by decide +kernel) rfl
theorem n_X10_worth : zYN mX10_worth 2 := ⟨by decide +kernel, by decide +kernel, by decide +kernel⟩
theorem wIn_X10_worth : Cond.instanceMethod yX10_worth ∈ zT := zT_mem (i := 1150) (by decide +kernel) rfl
theorem wSe_X10_worth : Cond.selects RX10 yX10_worth yX10_worth ∈ zT := zT_mem (i := 1151) (by decide +kernel) rfl
theorem wllaw_93 : Cond.methodLink RL 93 yX10_worth ∈ zT := zT_mem (i := 1149) (by decide +kernel) rfl
theorem klaw_93 : zKV RL 93 mX10_worth 2 := ⟨wllaw_93, wIn_X10_worth, wSe_X10_worth, wIni_X10, wCo_X10_worth, n_X10_worth⟩
theorem wCo_X9_apart : Cond.code yX9_apart cX9_apart 3 (some .int) ∈ zT := zT_mem (i := 707) (by decide +kernel) rfl
theorem n_X9_apart : zYN mX9_apart 2 := ⟨by decide +kernel, by decide +kernel, by decide +kernel⟩
theorem wIn_X9_apart : Cond.instanceMethod yX9_apart ∈ zT := zT_mem (i := 705) (by decide +kernel) rfl
theorem wSe_X9_apart : Cond.selects RX9 yX9_apart yX9_apart ∈ zT := zT_mem (i := 706) (by decide +kernel) rfl
theorem wllaw_94 : Cond.methodLink RL 94 yX9_apart ∈ zT := zT_mem (i := 704) (by decide +kernel) rfl
theorem klaw_94 : zKV RL 94 mX9_apart 2 := ⟨wllaw_94, wIn_X9_apart, wSe_X9_apart, wIni_X9, wCo_X9_apart, n_X9_apart⟩
theorem wCo_X10_apart : Cond.code yX10_apart cX10_apart 6 (some .int) ∈ zT := zT_mem (i := 1156) (by decide +kernel) rfl
theorem n_X10_apart : zYN mX10_apart 2 := ⟨by decide +kernel, by decide +kernel, by decide +kernel⟩
theorem wIn_X10_apart : Cond.instanceMethod yX10_apart ∈ zT := zT_mem (i := 1154) (by decide +kernel) rfl
theorem wSe_X10_apart : Cond.selects RX10 yX10_apart yX10_apart ∈ zT := zT_mem (i := 1155) (by decide +kernel) rfl
theorem wllaw_97 : Cond.methodLink RL 97 yX10_apart ∈ zT := zT_mem (i := 1153) (by decide +kernel) rfl
theorem klaw_97 : zKV RL 97 mX10_apart 2 := ⟨wllaw_97, wIn_X10_apart, wSe_X10_apart, wIni_X10, wCo_X10_apart, n_X10_apart⟩
theorem wCo_X9_order : Cond.code yX9_order cX9_order 3 (some .int) ∈ zT := zT_mem (i := 743) (by decide +kernel) rfl
theorem n_X9_order : zYN mX9_order 2 := ⟨by decide +kernel, by decide +kernel, by decide +kernel⟩
theorem wIn_X9_order : Cond.instanceMethod yX9_order ∈ zT := zT_mem (i := 741) (by decide +kernel) rfl
theorem wSe_X9_order : Cond.selects RX9 yX9_order yX9_order ∈ zT := zT_mem (i := 742) (by decide +kernel) rfl
theorem wllaw_98 : Cond.methodLink RL 98 yX9_order ∈ zT := zT_mem (i := 740) (by decide +kernel) rfl
theorem klaw_98 : zKV RL 98 mX9_order 2 := ⟨wllaw_98, wIn_X9_order, wSe_X9_order, wIni_X9, wCo_X9_order, n_X9_order⟩
theorem wCo_X10_order : Cond.code yX10_order cX10_order 13 (some .int) ∈ zT := zT_mem (i := 1160) (by decide +kernel) rfl
theorem n_X10_order : zYN mX10_order 2 := ⟨by decide +kernel, by decide +kernel, by decide +kernel⟩
theorem wIn_X10_order : Cond.instanceMethod yX10_order ∈ zT := zT_mem (i := 1158) (by decide +kernel) rfl
theorem wSe_X10_order : Cond.selects RX10 yX10_order yX10_order ∈ zT := zT_mem (i := 1159) (by decide +kernel) rfl
theorem wllaw_101 : Cond.methodLink RL 101 yX10_order ∈ zT := zT_mem (i := 1157) (by decide +kernel) rfl
theorem klaw_101 : zKV RL 101 mX10_order 2 := ⟨wllaw_101, wIn_X10_order, wSe_X10_order, wIni_X10, wCo_X10_order, n_X10_order⟩
theorem wCo_X9_rests : Cond.code yX9_rests cX9_rests 3 (some .int) ∈ zT := zT_mem (i := 755) (by decide +kernel) rfl
theorem n_X9_rests : zYN mX9_rests 2 := ⟨by decide +kernel, by decide +kernel, by decide +kernel⟩
theorem wIn_X9_rests : Cond.instanceMethod yX9_rests ∈ zT := zT_mem (i := 753) (by decide +kernel) rfl
theorem wSe_X9_rests : Cond.selects RX9 yX9_rests yX9_rests ∈ zT := zT_mem (i := 754) (by decide +kernel) rfl
theorem wllaw_102 : Cond.methodLink RL 102 yX9_rests ∈ zT := zT_mem (i := 752) (by decide +kernel) rfl
theorem klaw_102 : zKV RL 102 mX9_rests 2 := ⟨wllaw_102, wIn_X9_rests, wSe_X9_rests, wIni_X9, wCo_X9_rests, n_X9_rests⟩
theorem wCo_X10_rests : Cond.code yX10_rests cX10_rests 7 (some .int) ∈ zT := zT_mem (i := 1168) (by decide +kernel) rfl
theorem n_X10_rests : zYN mX10_rests 2 := ⟨by decide +kernel, by decide +kernel, by decide +kernel⟩
theorem wIn_X10_rests : Cond.instanceMethod yX10_rests ∈ zT := zT_mem (i := 1166) (by decide +kernel) rfl
theorem wSe_X10_rests : Cond.selects RX10 yX10_rests yX10_rests ∈ zT := zT_mem (i := 1167) (by decide +kernel) rfl
theorem wllaw_105 : Cond.methodLink RL 105 yX10_rests ∈ zT := zT_mem (i := 1165) (by decide +kernel) rfl
theorem klaw_105 : zKV RL 105 mX10_rests 2 := ⟨wllaw_105, wIn_X10_rests, wSe_X10_rests, wIni_X10, wCo_X10_rests, n_X10_rests⟩
theorem wCo_X9_stack : Cond.code yX9_stack cX9_stack 4 (some .int) ∈ zT := zT_mem (i := 767) (by decide +kernel) rfl
theorem n_X9_stack : zYN mX9_stack 1 := ⟨by decide +kernel, by decide +kernel, by decide +kernel⟩
theorem wIn_X9_stack : Cond.instanceMethod yX9_stack ∈ zT := zT_mem (i := 765) (by decide +kernel) rfl
theorem wSe_X9_stack : Cond.selects RX9 yX9_stack yX9_stack ∈ zT := zT_mem (i := 766) (by decide +kernel) rfl
theorem wllaw_106 : Cond.methodLink RL 106 yX9_stack ∈ zT := zT_mem (i := 764) (by decide +kernel) rfl
theorem klaw_106 : zKV RL 106 mX9_stack 1 := ⟨wllaw_106, wIn_X9_stack, wSe_X9_stack, wIni_X9, wCo_X9_stack, n_X9_stack⟩
theorem wCo_X10_stack : Cond.code yX10_stack cX10_stack 6 (some .int) ∈ zT := zT_mem (i := 1176) (by decide +kernel) rfl
theorem n_X10_stack : zYN mX10_stack 1 := ⟨by decide +kernel, by decide +kernel, by decide +kernel⟩
theorem wIn_X10_stack : Cond.instanceMethod yX10_stack ∈ zT := zT_mem (i := 1174) (by decide +kernel) rfl
theorem wSe_X10_stack : Cond.selects RX10 yX10_stack yX10_stack ∈ zT := zT_mem (i := 1175) (by decide +kernel) rfl
theorem wllaw_109 : Cond.methodLink RL 109 yX10_stack ∈ zT := zT_mem (i := 1173) (by decide +kernel) rfl
theorem klaw_109 : zKV RL 109 mX10_stack 1 := ⟨wllaw_109, wIn_X10_stack, wSe_X10_stack, wIni_X10, wCo_X10_stack, n_X10_stack⟩
theorem wCo_X9_until : Cond.code yX9_until cX9_until 8 (some .int) ∈ zT := zT_mem (i := 775) (by decide +kernel) rfl
theorem n_X9_until : zYN mX9_until 2 := ⟨by decide +kernel, by decide +kernel, by decide +kernel⟩
theorem wIn_X9_until : Cond.instanceMethod yX9_until ∈ zT := zT_mem (i := 773) (by decide +kernel) rfl
theorem wSe_X9_until : Cond.selects RX9 yX9_until yX9_until ∈ zT := zT_mem (i := 774) (by decide +kernel) rfl
theorem wllaw_110 : Cond.methodLink RL 110 yX9_until ∈ zT := zT_mem (i := 772) (by decide +kernel) rfl
theorem klaw_110 : zKV RL 110 mX9_until 2 := ⟨wllaw_110, wIn_X9_until, wSe_X9_until, wIni_X9, wCo_X9_until, n_X9_until⟩
theorem wCo_X10_until : Cond.code yX10_until cX10_until 8 (some .int) ∈ zT := zT_mem (i := 1180) (by decide +kernel) rfl
theorem n_X10_until : zYN mX10_until 2 := ⟨by decide +kernel, by decide +kernel, by decide +kernel⟩
theorem wIn_X10_until : Cond.instanceMethod yX10_until ∈ zT := zT_mem (i := 1178) (by decide +kernel) rfl
theorem wSe_X10_until : Cond.selects RX10 yX10_until yX10_until ∈ zT := zT_mem (i := 1179) (by decide +kernel) rfl
theorem wllaw_113 : Cond.methodLink RL 113 yX10_until ∈ zT := zT_mem (i := 1177) (by decide +kernel) rfl
theorem klaw_113 : zKV RL 113 mX10_until 2 := ⟨wllaw_113, wIn_X10_until, wSe_X10_until, wIni_X10, wCo_X10_until, n_X10_until⟩
theorem wCo_X9_unheard : Cond.code yX9_unheard cX9_unheard 7 (some .int) ∈ zT := zT_mem (i := 782) (by decide +kernel) rfl
theorem n_X9_unheard : zYN mX9_unheard 3 := ⟨by decide +kernel, by decide +kernel, by decide +kernel⟩
theorem wIn_X9_unheard : Cond.instanceMethod yX9_unheard ∈ zT := zT_mem (i := 780) (by decide +kernel) rfl
theorem wSe_X9_unheard : Cond.selects RX9 yX9_unheard yX9_unheard ∈ zT := zT_mem (i := 781) (by decide +kernel) rfl
theorem wllaw_114 : Cond.methodLink RL 114 yX9_unheard ∈ zT := zT_mem (i := 779) (by decide +kernel) rfl
theorem klaw_114 : zKV RL 114 mX9_unheard 3 := ⟨wllaw_114, wIn_X9_unheard, wSe_X9_unheard, wIni_X9, wCo_X9_unheard, n_X9_unheard⟩
theorem wCo_X10_unheard : Cond.code yX10_unheard cX10_unheard 9 (some .int) ∈ zT := zT_mem (i := 1187) (by decide +kernel) rfl
theorem n_X10_unheard : zYN mX10_unheard 3 := ⟨by decide +kernel, by decide +kernel, by decide +kernel⟩
theorem wIn_X10_unheard : Cond.instanceMethod yX10_unheard ∈ zT := zT_mem (i := 1185) (by decide +kernel) rfl
theorem wSe_X10_unheard : Cond.selects RX10 yX10_unheard yX10_unheard ∈ zT := zT_mem (i := 1186) (by decide +kernel) rfl
theorem wllaw_117 : Cond.methodLink RL 117 yX10_unheard ∈ zT := zT_mem (i := 1184) (by decide +kernel) rfl
theorem klaw_117 : zKV RL 117 mX10_unheard 3 := ⟨wllaw_117, wIn_X10_unheard, wSe_X10_unheard, wIni_X10, wCo_X10_unheard, n_X10_unheard⟩
theorem wCo_X9_learns : Cond.code yX9_learns cX9_learns 4 (some .int) ∈ zT := zT_mem (i := 789) (by decide +kernel) rfl
theorem n_X9_learns : zYN mX9_learns 2 := ⟨by decide +kernel, by decide +kernel, by decide +kernel⟩
theorem wIn_X9_learns : Cond.instanceMethod yX9_learns ∈ zT := zT_mem (i := 787) (by decide +kernel) rfl
theorem wSe_X9_learns : Cond.selects RX9 yX9_learns yX9_learns ∈ zT := zT_mem (i := 788) (by decide +kernel) rfl
theorem wllaw_118 : Cond.methodLink RL 118 yX9_learns ∈ zT := zT_mem (i := 786) (by decide +kernel) rfl
theorem klaw_118 : zKV RL 118 mX9_learns 2 := ⟨wllaw_118, wIn_X9_learns, wSe_X9_learns, wIni_X9, wCo_X9_learns, n_X9_learns⟩
theorem wCo_X10_learns : Cond.code yX10_learns cX10_learns 4 (some .int) ∈ zT := zT_mem (i := 1191) (by decide +kernel) rfl
theorem n_X10_learns : zYN mX10_learns 2 := ⟨by decide +kernel, by decide +kernel, by decide +kernel⟩
theorem wIn_X10_learns : Cond.instanceMethod yX10_learns ∈ zT := zT_mem (i := 1189) (by decide +kernel) rfl
theorem wSe_X10_learns : Cond.selects RX10 yX10_learns yX10_learns ∈ zT := zT_mem (i := 1190) (by decide +kernel) rfl
theorem wllaw_121 : Cond.methodLink RL 121 yX10_learns ∈ zT := zT_mem (i := 1188) (by decide +kernel) rfl
theorem klaw_121 : zKV RL 121 mX10_learns 2 := ⟨wllaw_121, wIn_X10_learns, wSe_X10_learns, wIni_X10, wCo_X10_learns, n_X10_learns⟩
theorem wCo_X9_write : Cond.code yX9_write cX9_write 3 (some .int) ∈ zT := zT_mem (i := 797) (by decide +kernel) rfl
theorem n_X9_write : zYN mX9_write 2 := ⟨by decide +kernel, by decide +kernel, by decide +kernel⟩
theorem wIn_X9_write : Cond.instanceMethod yX9_write ∈ zT := zT_mem (i := 795) (by decide +kernel) rfl
theorem wSe_X9_write : Cond.selects RX9 yX9_write yX9_write ∈ zT := zT_mem (i := 796) (by decide +kernel) rfl
theorem wllaw_122 : Cond.methodLink RL 122 yX9_write ∈ zT := zT_mem (i := 794) (by decide +kernel) rfl
theorem klaw_122 : zKV RL 122 mX9_write 2 := ⟨wllaw_122, wIn_X9_write, wSe_X9_write, wIni_X9, wCo_X9_write, n_X9_write⟩
theorem wCo_X10_write : Cond.code yX10_write cX10_write 3 (some .int) ∈ zT := zT_mem (i := 1195) (by decide +kernel) rfl
theorem n_X10_write : zYN mX10_write 2 := ⟨by decide +kernel, by decide +kernel, by decide +kernel⟩
theorem wIn_X10_write : Cond.instanceMethod yX10_write ∈ zT := zT_mem (i := 1193) (by decide +kernel) rfl
theorem wSe_X10_write : Cond.selects RX10 yX10_write yX10_write ∈ zT := zT_mem (i := 1194) (by decide +kernel) rfl
theorem wllaw_125 : Cond.methodLink RL 125 yX10_write ∈ zT := zT_mem (i := 1192) (by decide +kernel) rfl
theorem klaw_125 : zKV RL 125 mX10_write 2 := ⟨wllaw_125, wIn_X10_write, wSe_X10_write, wIni_X10, wCo_X10_write, n_X10_write⟩
theorem wCo_X9_tear : Cond.code yX9_tear cX9_tear 2 (some .int) ∈ zT := zT_mem (i := 801) (by decide +kernel) rfl
theorem n_X9_tear : zYN mX9_tear 0 := ⟨by decide +kernel, by decide +kernel, by decide +kernel⟩
theorem wIn_X9_tear : Cond.instanceMethod yX9_tear ∈ zT := zT_mem (i := 799) (by decide +kernel) rfl
theorem wSe_X9_tear : Cond.selects RX9 yX9_tear yX9_tear ∈ zT := zT_mem (i := 800) (by decide +kernel) rfl
theorem wllaw_126 : Cond.methodLink RL 126 yX9_tear ∈ zT := zT_mem (i := 798) (by decide +kernel) rfl
theorem klaw_126 : zKV RL 126 mX9_tear 0 := ⟨wllaw_126, wIn_X9_tear, wSe_X9_tear, wIni_X9, wCo_X9_tear, n_X9_tear⟩
theorem wCo_X10_tear : Cond.code yX10_tear cX10_tear 2 (some .int) ∈ zT := zT_mem (i := 1199) (by decide +kernel) rfl
theorem n_X10_tear : zYN mX10_tear 0 := ⟨by decide +kernel, by decide +kernel, by decide +kernel⟩
theorem wIn_X10_tear : Cond.instanceMethod yX10_tear ∈ zT := zT_mem (i := 1197) (by decide +kernel) rfl
theorem wSe_X10_tear : Cond.selects RX10 yX10_tear yX10_tear ∈ zT := zT_mem (i := 1198) (by decide +kernel) rfl
theorem wllaw_129 : Cond.methodLink RL 129 yX10_tear ∈ zT := zT_mem (i := 1196) (by decide +kernel) rfl
theorem klaw_129 : zKV RL 129 mX10_tear 0 := ⟨wllaw_129, wIn_X10_tear, wSe_X10_tear, wIni_X10, wCo_X10_tear, n_X10_tear⟩
theorem wCo_X9_judge : Cond.code yX9_judge cX9_judge 2 (some .int) ∈ zT := zT_mem (i := 805) (by decide +kernel) rfl
theorem n_X9_judge : zYN mX9_judge 0 := ⟨by decide +kernel, by decide +kernel, by decide +kernel⟩
theorem wIn_X9_judge : Cond.instanceMethod yX9_judge ∈ zT := zT_mem (i := 803) (by decide +kernel) rfl
theorem wSe_X9_judge : Cond.selects RX9 yX9_judge yX9_judge ∈ zT := zT_mem (i := 804) (by decide +kernel) rfl
theorem wllaw_130 : Cond.methodLink RL 130 yX9_judge ∈ zT := zT_mem (i := 802) (by decide +kernel) rfl
theorem klaw_130 : zKV RL 130 mX9_judge 0 := ⟨wllaw_130, wIn_X9_judge, wSe_X9_judge, wIni_X9, wCo_X9_judge, n_X9_judge⟩
theorem wCo_X10_judge : Cond.code yX10_judge cX10_judge 2 (some .int) ∈ zT := zT_mem (i := 1203) (by decide +kernel) rfl
theorem n_X10_judge : zYN mX10_judge 0 := ⟨by decide +kernel, by decide +kernel, by decide +kernel⟩
theorem wIn_X10_judge : Cond.instanceMethod yX10_judge ∈ zT := zT_mem (i := 1201) (by decide +kernel) rfl
theorem wSe_X10_judge : Cond.selects RX10 yX10_judge yX10_judge ∈ zT := zT_mem (i := 1202) (by decide +kernel) rfl
theorem wllaw_133 : Cond.methodLink RL 133 yX10_judge ∈ zT := zT_mem (i := 1200) (by decide +kernel) rfl
theorem klaw_133 : zKV RL 133 mX10_judge 0 := ⟨wllaw_133, wIn_X10_judge, wSe_X10_judge, wIni_X10, wCo_X10_judge, n_X10_judge⟩
theorem wCo_X9_seed : Cond.code yX9_seed cX9_seed 3 (some .int) ∈ zT := zT_mem (i := 809) (by decide +kernel) rfl
theorem n_X9_seed : zYN mX9_seed 1 := ⟨by decide +kernel, by decide +kernel, by decide +kernel⟩
theorem wIn_X9_seed : Cond.instanceMethod yX9_seed ∈ zT := zT_mem (i := 807) (by decide +kernel) rfl
theorem wSe_X9_seed : Cond.selects RX9 yX9_seed yX9_seed ∈ zT := zT_mem (i := 808) (by decide +kernel) rfl
theorem wllaw_134 : Cond.methodLink RL 134 yX9_seed ∈ zT := zT_mem (i := 806) (by decide +kernel) rfl
theorem klaw_134 : zKV RL 134 mX9_seed 1 := ⟨wllaw_134, wIn_X9_seed, wSe_X9_seed, wIni_X9, wCo_X9_seed, n_X9_seed⟩
theorem wCo_X10_seed : Cond.code yX10_seed cX10_seed 2 (some .int) ∈ zT := zT_mem (i := 1207) (by decide +kernel) rfl
theorem n_X10_seed : zYN mX10_seed 1 := ⟨by decide +kernel, by decide +kernel, by decide +kernel⟩
theorem wIn_X10_seed : Cond.instanceMethod yX10_seed ∈ zT := zT_mem (i := 1205) (by decide +kernel) rfl
theorem wSe_X10_seed : Cond.selects RX10 yX10_seed yX10_seed ∈ zT := zT_mem (i := 1206) (by decide +kernel) rfl
theorem wllaw_137 : Cond.methodLink RL 137 yX10_seed ∈ zT := zT_mem (i := 1204) (by decide +kernel) rfl
theorem klaw_137 : zKV RL 137 mX10_seed 1 := ⟨wllaw_137, wIn_X10_seed, wSe_X10_seed, wIni_X10, wCo_X10_seed, n_X10_seed⟩
theorem wCo_X9_keep : Cond.code yX9_keep cX9_keep 2 (some .int) ∈ zT := zT_mem (i := 813) (by decide +kernel) rfl
theorem n_X9_keep : zYN mX9_keep 1 := ⟨by decide +kernel, by decide +kernel, by decide +kernel⟩
theorem wIn_X9_keep : Cond.instanceMethod yX9_keep ∈ zT := zT_mem (i := 811) (by decide +kernel) rfl
theorem wSe_X9_keep : Cond.selects RX9 yX9_keep yX9_keep ∈ zT := zT_mem (i := 812) (by decide +kernel) rfl
theorem wllaw_138 : Cond.methodLink RL 138 yX9_keep ∈ zT := zT_mem (i := 810) (by decide +kernel) rfl
theorem klaw_138 : zKV RL 138 mX9_keep 1 := ⟨wllaw_138, wIn_X9_keep, wSe_X9_keep, wIni_X9, wCo_X9_keep, n_X9_keep⟩
theorem wCo_X10_keep : Cond.code yX10_keep cX10_keep 3 (some .int) ∈ zT := zT_mem (i := 1211) (by decide +kernel) rfl
theorem n_X10_keep : zYN mX10_keep 1 := ⟨by decide +kernel, by decide +kernel, by decide +kernel⟩
theorem wIn_X10_keep : Cond.instanceMethod yX10_keep ∈ zT := zT_mem (i := 1209) (by decide +kernel) rfl
theorem wSe_X10_keep : Cond.selects RX10 yX10_keep yX10_keep ∈ zT := zT_mem (i := 1210) (by decide +kernel) rfl
theorem wllaw_141 : Cond.methodLink RL 141 yX10_keep ∈ zT := zT_mem (i := 1208) (by decide +kernel) rfl
theorem klaw_141 : zKV RL 141 mX10_keep 1 := ⟨wllaw_141, wIn_X10_keep, wSe_X10_keep, wIni_X10, wCo_X10_keep, n_X10_keep⟩
theorem wCo_X9_goBack : Cond.code yX9_goBack cX9_goBack 2 (some .int) ∈ zT := zT_mem (i := 820) (by decide +kernel) rfl
theorem n_X9_goBack : zYN mX9_goBack 1 := ⟨by decide +kernel, by decide +kernel, by decide +kernel⟩
theorem wIn_X9_goBack : Cond.instanceMethod yX9_goBack ∈ zT := zT_mem (i := 818) (by decide +kernel) rfl
theorem wSe_X9_goBack : Cond.selects RX9 yX9_goBack yX9_goBack ∈ zT := zT_mem (i := 819) (by decide +kernel) rfl
theorem wllaw_142 : Cond.methodLink RL 142 yX9_goBack ∈ zT := zT_mem (i := 817) (by decide +kernel) rfl
theorem klaw_142 : zKV RL 142 mX9_goBack 1 := ⟨wllaw_142, wIn_X9_goBack, wSe_X9_goBack, wIni_X9, wCo_X9_goBack, n_X9_goBack⟩
theorem wCo_X10_goBack : Cond.code yX10_goBack cX10_goBack 3 (some .int) ∈ zT := zT_mem (i := 1215) (by decide +kernel) rfl
theorem n_X10_goBack : zYN mX10_goBack 1 := ⟨by decide +kernel, by decide +kernel, by decide +kernel⟩
theorem wIn_X10_goBack : Cond.instanceMethod yX10_goBack ∈ zT := zT_mem (i := 1213) (by decide +kernel) rfl
theorem wSe_X10_goBack : Cond.selects RX10 yX10_goBack yX10_goBack ∈ zT := zT_mem (i := 1214) (by decide +kernel) rfl
theorem wllaw_145 : Cond.methodLink RL 145 yX10_goBack ∈ zT := zT_mem (i := 1212) (by decide +kernel) rfl
theorem klaw_145 : zKV RL 145 mX10_goBack 1 := ⟨wllaw_145, wIn_X10_goBack, wSe_X10_goBack, wIni_X10, wCo_X10_goBack, n_X10_goBack⟩
