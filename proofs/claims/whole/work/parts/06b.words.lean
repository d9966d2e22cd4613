set_option maxRecDepth 20000 in
theorem ggX0_commandBeginsAt_X0_signAt : GoodIn wsX0_commandBeginsAt wsX0_signAt := goodIn_r _ [5, 6, 7, 8, 9] (by decide +kernel) (by decide +kernel)
set_option maxRecDepth 20000 in
theorem gX0_commandBeginsAt_X0_signAt : GoodIn wsX0_commandBeginsAt (wsV RX0 19 RX0 yX0_signAt wsX0_signAt) := goodIn_app (goodIn_of _ (by decide +kernel)) ggX0_commandBeginsAt_X0_signAt
set_option maxRecDepth 20000 in
theorem ggX0_numberAt_X0_signAt : GoodIn wsX0_numberAt wsX0_signAt := goodIn_r _ [6, 1, 7, 11, 12] (by decide +kernel) (by decide +kernel)
set_option maxRecDepth 20000 in
theorem gX0_numberAt_X0_signAt : GoodIn wsX0_numberAt (wsV RX0 19 RX0 yX0_signAt wsX0_signAt) := goodIn_app (goodIn_of _ (by decide +kernel)) ggX0_numberAt_X0_signAt
set_option maxRecDepth 20000 in
theorem ggX0_numberAt_X0_isDigit : GoodIn wsX0_numberAt wsX0_isDigit := goodIn_r _ [10] (by decide +kernel) (by decide +kernel)
set_option maxRecDepth 20000 in
theorem gX0_numberAt_X0_isDigit : GoodIn wsX0_numberAt (va_wsS RX0 23 yX0_isDigit wsX0_isDigit) := goodIn_app (goodIn_of _ (by decide +kernel)) ggX0_numberAt_X0_isDigit
set_option maxRecDepth 20000 in
theorem ggX0_firstError_X0_signAt : GoodIn wsX0_firstError wsX0_signAt := goodIn_r _ [6, 1, 7, 23, 24] (by decide +kernel) (by decide +kernel)
set_option maxRecDepth 20000 in
theorem gX0_firstError_X0_signAt : GoodIn wsX0_firstError (wsV RX0 19 RX0 yX0_signAt wsX0_signAt) := goodIn_app (goodIn_of _ (by decide +kernel)) ggX0_firstError_X0_signAt
set_option maxRecDepth 20000 in
theorem ggX0_firstError_X0_stageAfter : GoodIn wsX0_firstError wsX0_stageAfter := goodIn_r _ [10, 11, 12, 5, 13, 14, 15, 16, 17, 18, 19, 20, 21, 22] (by decide +kernel) (by decide +kernel)
set_option maxRecDepth 20000 in
theorem gX0_firstError_X0_stageAfter : GoodIn wsX0_firstError (va_wsS RX0 27 yX0_stageAfter wsX0_stageAfter) := goodIn_app (goodIn_of _ (by decide +kernel)) ggX0_firstError_X0_stageAfter
set_option maxRecDepth 20000 in
theorem ggX0_stageAfter_X0_stageAfterFirst : GoodIn wsX0_stageAfter wsX0_stageAfterFirst := goodIn_r _ [4, 5, 6, 3, 7] (by decide +kernel) (by decide +kernel)
set_option maxRecDepth 20000 in
theorem gX0_stageAfter_X0_stageAfterFirst : GoodIn wsX0_stageAfter (va_wsS RX0 31 yX0_stageAfterFirst wsX0_stageAfterFirst) := goodIn_app (goodIn_of _ (by decide +kernel)) ggX0_stageAfter_X0_stageAfterFirst
set_option maxRecDepth 20000 in
theorem ggX0_stageAfter_X0_isDigit : GoodIn wsX0_stageAfter wsX0_isDigit := goodIn_r _ [10] (by decide +kernel) (by decide +kernel)
set_option maxRecDepth 20000 in
theorem gX0_stageAfter_X0_isDigit : GoodIn wsX0_stageAfter (va_wsS RX0 23 yX0_isDigit wsX0_isDigit) := goodIn_app (goodIn_of _ (by decide +kernel)) ggX0_stageAfter_X0_isDigit
set_option maxRecDepth 20000 in
theorem ggX0_stageAfter_X0_mayGoOn : GoodIn wsX0_stageAfter wsX0_mayGoOn := goodIn_r _ [13] (by decide +kernel) (by decide +kernel)
set_option maxRecDepth 20000 in
theorem gX0_stageAfter_X0_mayGoOn : GoodIn wsX0_stageAfter (va_wsS RX0 34 yX0_mayGoOn wsX0_mayGoOn) := goodIn_app (goodIn_of _ (by decide +kernel)) ggX0_stageAfter_X0_mayGoOn
set_option maxRecDepth 20000 in
theorem ggX0_stageAfter_X0_isTenantDigit : GoodIn wsX0_stageAfter wsX0_isTenantDigit := goodIn_r _ [7] (by decide +kernel) (by decide +kernel)
set_option maxRecDepth 20000 in
theorem gX0_stageAfter_X0_isTenantDigit : GoodIn wsX0_stageAfter (va_wsS RX0 38 yX0_isTenantDigit wsX0_isTenantDigit) := goodIn_app (goodIn_of _ (by decide +kernel)) ggX0_stageAfter_X0_isTenantDigit
set_option maxRecDepth 20000 in
theorem ggX0_stageAfterFirst_X0_isTenantDigit : GoodIn wsX0_stageAfterFirst wsX0_isTenantDigit := goodIn_r _ [4] (by decide +kernel) (by decide +kernel)
set_option maxRecDepth 20000 in
theorem gX0_stageAfterFirst_X0_isTenantDigit : GoodIn wsX0_stageAfterFirst (va_wsS RX0 38 yX0_isTenantDigit wsX0_isTenantDigit) := goodIn_app (goodIn_of _ (by decide +kernel)) ggX0_stageAfterFirst_X0_isTenantDigit
set_option maxRecDepth 20000 in
theorem ggX1_init_X4_init : GoodIn wsX1_init wsX4_init := goodIn_r _ [12, 13, 2, 3, 14, 15, 16, 17, 18, 19, 20, 21, 22, 23, 24, 25, 26, 27, 28, 29, 30, 31, 32, 33, 34, 35, 36, 37, 38, 39, 49, 50, 51, 43, 44, 45, 46, 47, 48, 52, 53] (by decide +kernel) (by decide +kernel)
set_option maxRecDepth 20000 in
theorem gX1_init_X4_init : GoodIn wsX1_init (wsX4_init) := ggX1_init_X4_init
set_option maxRecDepth 20000 in
theorem ggX1_push_X4_copyFrom : GoodIn wsX1_push wsX4_copyFrom := goodIn_r _ [8, 9, 10, 11, 12, 13, 14, 15, 16, 17, 18, 19, 20, 21, 22, 23, 24, 25, 26, 27, 28, 29, 30, 31, 32, 33, 34, 35, 39, 40, 41, 42, 43, 44, 45, 46, 47, 48, 49] (by decide +kernel) (by decide +kernel)
set_option maxRecDepth 20000 in
theorem gX1_push_X4_copyFrom : GoodIn wsX1_push (wsV RX1 25 RX4 yX4_copyFrom wsX4_copyFrom) := goodIn_app (goodIn_of _ (by decide +kernel)) ggX1_push_X4_copyFrom
set_option maxRecDepth 20000 in
theorem ggX1_popInto_X4_copyFrom : GoodIn wsX1_popInto wsX4_copyFrom := goodIn_r _ [8, 9, 10, 11, 12, 13, 14, 15, 16, 17, 18, 19, 20, 21, 22, 23, 24, 25, 26, 27, 28, 29, 30, 31, 32, 33, 34, 35, 39, 40, 41, 42, 43, 44, 45, 46, 47, 48, 49] (by decide +kernel) (by decide +kernel)
set_option maxRecDepth 20000 in
theorem gX1_popInto_X4_copyFrom : GoodIn wsX1_popInto (wsV RX1 25 RX4 yX4_copyFrom wsX4_copyFrom) := goodIn_app (goodIn_of _ (by decide +kernel)) ggX1_popInto_X4_copyFrom
set_option maxRecDepth 20000 in
theorem ggX2_note_X6_isSampled : GoodIn wsX2_note wsX6_isSampled := goodIn_r _ [5] (by decide +kernel) (by decide +kernel)
set_option maxRecDepth 20000 in
theorem gX2_note_X6_isSampled_n24 : GoodIn wsX2_note (wsX6_isSampled) := ggX2_note_X6_isSampled
set_option maxRecDepth 20000 in
theorem ggX2_note_X6_listStart : GoodIn wsX2_note wsX6_listStart := goodIn_r _ [7] (by decide +kernel) (by decide +kernel)
set_option maxRecDepth 20000 in
theorem gX2_note_X6_listStart_n28 : GoodIn wsX2_note (wsX6_listStart) := ggX2_note_X6_listStart
set_option maxRecDepth 20000 in
theorem ggX3_resultOf_X3_placeOf : GoodIn wsX3_resultOf wsX3_placeOf := goodIn_r _ [5, 6, 12, 13, 14] (by decide +kernel) (by decide +kernel)
set_option maxRecDepth 20000 in
theorem gX3_resultOf_X3_placeOf : GoodIn wsX3_resultOf (wsV RX3 27 RX3 yX3_placeOf wsX3_placeOf) := goodIn_app (goodIn_of _ (by decide +kernel)) ggX3_resultOf_X3_placeOf
set_option maxRecDepth 20000 in
theorem ggX3_resultOf_X3_ownedWays : GoodIn wsX3_resultOf wsX3_ownedWays := goodIn_r _ [10, 11, 12, 13, 14] (by decide +kernel) (by decide +kernel)
set_option maxRecDepth 20000 in
theorem gX3_resultOf_X3_ownedWays : GoodIn wsX3_resultOf (wsV RX3 31 RX3 yX3_ownedWays wsX3_ownedWays) := goodIn_app (goodIn_of _ (by decide +kernel)) ggX3_resultOf_X3_ownedWays
set_option maxRecDepth 20000 in
theorem ggX3_renew_X3_placeOf : GoodIn wsX3_renew wsX3_placeOf := goodIn_r _ [6, 7, 8, 9, 10] (by decide +kernel) (by decide +kernel)
set_option maxRecDepth 20000 in
theorem gX3_renew_X3_placeOf : GoodIn wsX3_renew (wsV RX3 27 RX3 yX3_placeOf wsX3_placeOf) := goodIn_app (goodIn_of _ (by decide +kernel)) ggX3_renew_X3_placeOf
set_option maxRecDepth 20000 in
theorem ggX3_linesInWay_X3_holdsLineOf : GoodIn wsX3_linesInWay wsX3_holdsLineOf := goodIn_r _ [5, 6, 7, 8, 9] (by decide +kernel) (by decide +kernel)
set_option maxRecDepth 20000 in
theorem gX3_linesInWay_X3_holdsLineOf : GoodIn wsX3_linesInWay (wsV RX3 35 RX3 yX3_holdsLineOf wsX3_holdsLineOf) := goodIn_app (goodIn_of _ (by decide +kernel)) ggX3_linesInWay_X3_holdsLineOf
set_option maxRecDepth 20000 in
theorem ggX3_linesOf_X3_linesInWay : GoodIn wsX3_linesOf wsX3_linesInWay := goodIn_r _ [5, 6, 7, 8, 4, 9, 10, 11, 12, 13] (by decide +kernel) (by decide +kernel)
set_option maxRecDepth 20000 in
theorem gX3_linesOf_X3_linesInWay : GoodIn wsX3_linesOf (wsV RX3 39 RX3 yX3_linesInWay wsX3_linesInWay) := goodIn_app (goodIn_of _ (by decide +kernel)) ggX3_linesOf_X3_linesInWay
set_option maxRecDepth 20000 in
theorem ggX3_linesInOwnWays_X3_linesInWay : GoodIn wsX3_linesInOwnWays wsX3_linesInWay := goodIn_r _ [6, 7, 8, 9, 5, 10, 11, 12, 13, 14] (by decide +kernel) (by decide +kernel)
set_option maxRecDepth 20000 in
theorem gX3_linesInOwnWays_X3_linesInWay : GoodIn wsX3_linesInOwnWays (wsV RX3 39 RX3 yX3_linesInWay wsX3_linesInWay) := goodIn_app (goodIn_of _ (by decide +kernel)) ggX3_linesInOwnWays_X3_linesInWay
set_option maxRecDepth 20000 in
theorem ggX3_allLines_X3_linesOf : GoodIn wsX3_allLines wsX3_linesOf := goodIn_r _ [5, 6, 7, 8, 4, 9, 10, 11, 12, 13, 14, 15, 16, 17] (by decide +kernel) (by decide +kernel)
set_option maxRecDepth 20000 in
theorem gX3_allLines_X3_linesOf : GoodIn wsX3_allLines (wsV RX3 42 RX3 yX3_linesOf wsX3_linesOf) := goodIn_app (goodIn_of _ (by decide +kernel)) ggX3_allLines_X3_linesOf
set_option maxRecDepth 20000 in
theorem ggX3_removeLinesOf_X3_holdsLineOf : GoodIn wsX3_removeLinesOf wsX3_holdsLineOf := goodIn_r _ [6, 1, 7, 8, 9] (by decide +kernel) (by decide +kernel)
set_option maxRecDepth 20000 in
theorem gX3_removeLinesOf_X3_holdsLineOf : GoodIn wsX3_removeLinesOf (wsV RX3 35 RX3 yX3_holdsLineOf wsX3_holdsLineOf) := goodIn_app (goodIn_of _ (by decide +kernel)) ggX3_removeLinesOf_X3_holdsLineOf
set_option maxRecDepth 20000 in
theorem ggX3_wayWithFewestLines_X3_linesInWay : GoodIn wsX3_wayWithFewestLines wsX3_linesInWay := goodIn_r _ [6, 7, 8, 9, 5, 10, 11, 12, 13, 14] (by decide +kernel) (by decide +kernel)
set_option maxRecDepth 20000 in
theorem gX3_wayWithFewestLines_X3_linesInWay : GoodIn wsX3_wayWithFewestLines (wsV RX3 39 RX3 yX3_linesInWay wsX3_linesInWay) := goodIn_app (goodIn_of _ (by decide +kernel)) ggX3_wayWithFewestLines_X3_linesInWay
set_option maxRecDepth 20000 in
theorem ggX4_init_X3_init : GoodIn wsX4_init wsX3_init := goodIn_r _ [19, 20, 2, 3, 12, 21, 22, 23, 30, 31, 32] (by decide +kernel) (by decide +kernel)
set_option maxRecDepth 20000 in
theorem gX4_init_X3_init : GoodIn wsX4_init (wsX3_init) := ggX4_init_X3_init
set_option maxRecDepth 20000 in
theorem ggX4_init_X2_init : GoodIn wsX4_init wsX2_init := goodIn_r _ [26, 27, 2, 3, 12, 28, 29, 39, 40] (by decide +kernel) (by decide +kernel)
set_option maxRecDepth 20000 in
theorem gX4_init_X2_init : GoodIn wsX4_init (wsX2_init) := ggX4_init_X2_init
set_option maxRecDepth 20000 in
theorem ggX4_copyFrom_X3_copyFrom : GoodIn wsX4_copyFrom wsX3_copyFrom := goodIn_r _ [15, 16, 17, 5, 6, 7, 18, 19, 34, 35, 36] (by decide +kernel) (by decide +kernel)
set_option maxRecDepth 20000 in
theorem gX4_copyFrom_X3_copyFrom : GoodIn wsX4_copyFrom (wsV RX4 39 RX3 yX3_copyFrom wsX3_copyFrom) := goodIn_app (goodIn_of _ (by decide +kernel)) ggX4_copyFrom_X3_copyFrom
set_option maxRecDepth 20000 in
theorem ggX4_copyFrom_X2_copyFrom : GoodIn wsX4_copyFrom wsX2_copyFrom := goodIn_r _ [24, 25, 26, 5, 6, 7, 27, 37, 38] (by decide +kernel) (by decide +kernel)
set_option maxRecDepth 20000 in
theorem gX4_copyFrom_X2_copyFrom : GoodIn wsX4_copyFrom (wsV RX4 43 RX2 yX2_copyFrom wsX2_copyFrom) := goodIn_app (goodIn_of _ (by decide +kernel)) ggX4_copyFrom_X2_copyFrom
set_option maxRecDepth 20000 in
theorem ggX5_compute_X5_growOne : GoodIn wsX5_compute wsX5_growOne := goodIn_r _ [8, 1, 9, 10, 11, 12, 7, 13, 14, 21, 22] (by decide +kernel) (by decide +kernel)
set_option maxRecDepth 20000 in
theorem gX5_compute_X5_growOne : GoodIn wsX5_compute (wsV RX5 24 RX5 yX5_growOne wsX5_growOne) := goodIn_app (goodIn_of _ (by decide +kernel)) ggX5_compute_X5_growOne
set_option maxRecDepth 20000 in
theorem ggX5_growOne_X5_lowest : GoodIn wsX5_growOne wsX5_lowest := goodIn_r _ [7, 1, 8] (by decide +kernel) (by decide +kernel)
set_option maxRecDepth 20000 in
theorem gX5_growOne_X5_lowest : GoodIn wsX5_growOne (wsV RX5 33 RX5 yX5_lowest wsX5_lowest) := goodIn_app (goodIn_of _ (by decide +kernel)) ggX5_growOne_X5_lowest
