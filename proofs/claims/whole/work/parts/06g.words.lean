set_option maxRecDepth 20000 in
theorem ggX7_allLines_X7_linesOf : GoodIn wsX7_allLines wsX7_linesOf := goodIn_r _ [5, 6, 7, 8, 9, 10, 11, 12, 13, 14, 15, 16, 17] (by decide +kernel) (by decide +kernel)
set_option maxRecDepth 20000 in
theorem gX7_allLines_X7_linesOf : GoodIn wsX7_allLines (wsV RX7 36 RX7 yX7_linesOf wsX7_linesOf) := goodIn_app (goodIn_of _ (by decide +kernel)) ggX7_allLines_X7_linesOf
set_option maxRecDepth 20000 in
theorem ggX7_wouldBe_X7_find : GoodIn wsX7_wouldBe wsX7_find := goodIn_r _ [5, 6, 11, 12, 13, 14, 15, 16, 17, 18, 19, 20, 21] (by decide +kernel) (by decide +kernel)
set_option maxRecDepth 20000 in
theorem gX7_wouldBe_X7_find : GoodIn wsX7_wouldBe (wsV RX7 40 RX7 yX7_find wsX7_find) := goodIn_app (goodIn_of _ (by decide +kernel)) ggX7_wouldBe_X7_find
set_option maxRecDepth 20000 in
theorem ggX7_wouldBe_X7_owned : GoodIn wsX7_wouldBe wsX7_owned := goodIn_r _ [10, 6, 11, 12, 13, 14, 15, 16, 17, 18, 19, 20, 21] (by decide +kernel) (by decide +kernel)
set_option maxRecDepth 20000 in
theorem gX7_wouldBe_X7_owned : GoodIn wsX7_wouldBe (wsV RX7 44 RX7 yX7_owned wsX7_owned) := goodIn_app (goodIn_of _ (by decide +kernel)) ggX7_wouldBe_X7_owned
set_option maxRecDepth 20000 in
theorem ggX7_giveSome_X7_gained : GoodIn wsX7_giveSome wsX7_gained := goodIn_r _ [6, 7, 12, 13, 14, 15, 16, 17, 18, 19, 20, 21, 22] (by decide +kernel) (by decide +kernel)
set_option maxRecDepth 20000 in
theorem gX7_giveSome_X7_gained : GoodIn wsX7_giveSome (wsV RX7 48 RX7 yX7_gained wsX7_gained) := goodIn_app (goodIn_of _ (by decide +kernel)) ggX7_giveSome_X7_gained
set_option maxRecDepth 20000 in
theorem ggX7_giveSome_X7_lowestTarget : GoodIn wsX7_giveSome wsX7_lowestTarget := goodIn_r _ [11, 1, 12, 13, 14, 15, 16, 17, 18, 19, 20, 21, 22] (by decide +kernel) (by decide +kernel)
set_option maxRecDepth 20000 in
theorem gX7_giveSome_X7_lowestTarget : GoodIn wsX7_giveSome (wsV RX7 51 RX7 yX7_lowestTarget wsX7_lowestTarget) := goodIn_app (goodIn_of _ (by decide +kernel)) ggX7_giveSome_X7_lowestTarget
set_option maxRecDepth 20000 in
theorem ggX7_findTargets_X7_giveSome : GoodIn wsX7_findTargets wsX7_giveSome := goodIn_r _ [7, 1, 8, 9, 10, 6, 11, 2, 12, 13, 14, 15, 16, 17, 18, 19, 20, 21, 22, 23, 24, 25, 26] (by decide +kernel) (by decide +kernel)
set_option maxRecDepth 20000 in
theorem gX7_findTargets_X7_giveSome : GoodIn wsX7_findTargets (wsV RX7 55 RX7 yX7_giveSome wsX7_giveSome) := goodIn_app (goodIn_of _ (by decide +kernel)) ggX7_findTargets_X7_giveSome
set_option maxRecDepth 20000 in
theorem ggX7_deficit_X7_owned : GoodIn wsX7_deficit wsX7_owned := goodIn_r _ [6, 7, 8, 9, 10, 11, 12, 13, 14, 15, 16, 17, 18] (by decide +kernel) (by decide +kernel)
set_option maxRecDepth 20000 in
theorem gX7_deficit_X7_owned : GoodIn wsX7_deficit (wsV RX7 44 RX7 yX7_owned wsX7_owned) := goodIn_app (goodIn_of _ (by decide +kernel)) ggX7_deficit_X7_owned
set_option maxRecDepth 20000 in
theorem ggX7_move_X7_findTargets : GoodIn wsX7_move wsX7_findTargets := goodIn_r _ [6, 7, 1, 8, 9, 10, 5, 11, 12, 13, 14, 15, 16, 17, 18, 19, 32, 33, 34, 35, 36, 37, 38, 39, 40, 41, 42] (by decide +kernel) (by decide +kernel)
set_option maxRecDepth 20000 in
theorem gX7_move_X7_findTargets : GoodIn wsX7_move (wsV RX7 58 RX7 yX7_findTargets wsX7_findTargets) := goodIn_app (goodIn_of _ (by decide +kernel)) ggX7_move_X7_findTargets
set_option maxRecDepth 20000 in
theorem ggX7_move_X7_deficit : GoodIn wsX7_move wsX7_deficit := goodIn_r _ [23, 7, 24, 25, 26, 5, 27, 1, 32, 33, 34, 35, 36, 37, 38, 39, 40, 41, 42] (by decide +kernel) (by decide +kernel)
set_option maxRecDepth 20000 in
theorem gX7_move_X7_deficit : GoodIn wsX7_move (wsV RX7 61 RX7 yX7_deficit wsX7_deficit) := goodIn_app (goodIn_of _ (by decide +kernel)) ggX7_move_X7_deficit
set_option maxRecDepth 20000 in
theorem ggX7_move_X7_linesIn : GoodIn wsX7_move wsX7_linesIn := goodIn_r _ [31, 1, 32, 33, 34, 35, 36, 37, 38, 39, 40, 41, 42] (by decide +kernel) (by decide +kernel)
set_option maxRecDepth 20000 in
theorem gX7_move_X7_linesIn : GoodIn wsX7_move (wsV RX7 64 RX7 yX7_linesIn wsX7_linesIn) := goodIn_app (goodIn_of _ (by decide +kernel)) ggX7_move_X7_linesIn
set_option maxRecDepth 20000 in
theorem ggX7_put_X7_placeFor : GoodIn wsX7_put wsX7_placeFor := goodIn_r _ [6, 1, 7, 8, 9, 10, 11, 12, 13, 14, 15, 16, 17] (by decide +kernel) (by decide +kernel)
set_option maxRecDepth 20000 in
theorem gX7_put_X7_placeFor : GoodIn wsX7_put (wsV RX7 67 RX7 yX7_placeFor wsX7_placeFor) := goodIn_app (goodIn_of _ (by decide +kernel)) ggX7_put_X7_placeFor
set_option maxRecDepth 20000 in
theorem ggX7_visits_X7_watch : GoodIn wsX7_visits wsX7_watch := goodIn_r _ [6, 1, 60, 61, 62, 63, 64, 65, 66, 67, 68, 69, 70] (by decide +kernel) (by decide +kernel)
set_option maxRecDepth 20000 in
theorem gX7_visits_X7_watch : GoodIn wsX7_visits (wsV RX7 70 RX7 yX7_watch wsX7_watch) := goodIn_app (goodIn_of _ (by decide +kernel)) ggX7_visits_X7_watch
set_option maxRecDepth 20000 in
theorem ggX7_visits_X7_wouldBe : GoodIn wsX7_visits wsX7_wouldBe := goodIn_r _ [10, 11, 12, 13, 5, 14, 1, 15, 16, 17, 18, 60, 61, 62, 63, 64, 65, 66, 67, 68, 69, 70] (by decide +kernel) (by decide +kernel)
set_option maxRecDepth 20000 in
theorem gX7_visits_X7_wouldBe : GoodIn wsX7_visits (wsV RX7 74 RX7 yX7_wouldBe wsX7_wouldBe) := goodIn_app (goodIn_of _ (by decide +kernel)) ggX7_visits_X7_wouldBe
set_option maxRecDepth 20000 in
theorem ggX7_visits_X7_find : GoodIn wsX7_visits wsX7_find := goodIn_r _ [14, 1, 60, 61, 62, 63, 64, 65, 66, 67, 68, 69, 70] (by decide +kernel) (by decide +kernel)
set_option maxRecDepth 20000 in
theorem gX7_visits_X7_find : GoodIn wsX7_visits (wsV RX7 40 RX7 yX7_find wsX7_find) := goodIn_app (goodIn_of _ (by decide +kernel)) ggX7_visits_X7_find
set_option maxRecDepth 20000 in
theorem ggX7_visits_X7_put : GoodIn wsX7_visits wsX7_put := goodIn_r _ [22, 1, 23, 24, 25, 5, 26, 60, 61, 62, 63, 64, 65, 66, 67, 68, 69, 70] (by decide +kernel) (by decide +kernel)
set_option maxRecDepth 20000 in
theorem gX7_visits_X7_put : GoodIn wsX7_visits (wsV RX7 77 RX7 yX7_put wsX7_put) := goodIn_app (goodIn_of _ (by decide +kernel)) ggX7_visits_X7_put
set_option maxRecDepth 20000 in
theorem ggX7_visits_X7_move : GoodIn wsX7_visits wsX7_move := goodIn_r _ [30, 1, 31, 32, 33, 5, 34, 35, 36, 37, 38, 39, 40, 41, 42, 43, 44, 45, 46, 47, 48, 49, 50, 51, 15, 16, 17, 18, 52, 53, 54, 55, 60, 61, 62, 63, 64, 65, 66, 67, 68, 69, 70] (by decide +kernel) (by decide +kernel)
set_option maxRecDepth 20000 in
theorem gX7_visits_X7_move : GoodIn wsX7_visits (wsV RX7 80 RX7 yX7_move wsX7_move) := goodIn_app (goodIn_of _ (by decide +kernel)) ggX7_visits_X7_move
set_option maxRecDepth 20000 in
theorem ggX7_visits_X7_halve : GoodIn wsX7_visits wsX7_halve := goodIn_r _ [59, 1, 60, 61, 62, 63, 64, 65, 66, 67, 68, 69, 70] (by decide +kernel) (by decide +kernel)
set_option maxRecDepth 20000 in
theorem gX7_visits_X7_halve : GoodIn wsX7_visits (wsV RX7 83 RX7 yX7_halve wsX7_halve) := goodIn_app (goodIn_of _ (by decide +kernel)) ggX7_visits_X7_halve
set_option maxRecDepth 20000 in
theorem ggX7_access_X7_in : GoodIn wsX7_access wsX7_in := goodIn_r _ [5] (by decide +kernel) (by decide +kernel)
set_option maxRecDepth 20000 in
theorem gX7_access_X7_in : GoodIn wsX7_access (va_wsS RX7 86 yX7_in wsX7_in) := goodIn_app (goodIn_of _ (by decide +kernel)) ggX7_access_X7_in
set_option maxRecDepth 20000 in
theorem ggX7_access_X7_fails : GoodIn wsX7_access wsX7_fails := goodIn_r _ [9, 1, 78, 79, 80, 81, 82, 83, 84, 85, 86, 87, 88] (by decide +kernel) (by decide +kernel)
set_option maxRecDepth 20000 in
theorem gX7_access_X7_fails : GoodIn wsX7_access (wsV RX7 90 RX7 yX7_fails wsX7_fails) := goodIn_app (goodIn_of _ (by decide +kernel)) ggX7_access_X7_fails
set_option maxRecDepth 20000 in
theorem ggX7_access_X7_record : GoodIn wsX7_access wsX7_record := goodIn_r _ [13, 14, 15, 16, 78, 79, 80, 81, 82, 83, 84, 85, 86, 87, 88] (by decide +kernel) (by decide +kernel)
set_option maxRecDepth 20000 in
theorem gX7_access_X7_record : GoodIn wsX7_access (wsV RX7 93 RX7 yX7_record wsX7_record) := goodIn_app (goodIn_of _ (by decide +kernel)) ggX7_access_X7_record
set_option maxRecDepth 20000 in
theorem ggX7_access_X7_visits : GoodIn wsX7_access wsX7_visits := goodIn_r _ [20, 16, 21, 22, 23, 4, 24, 25, 26, 27, 28, 29, 30, 31, 32, 33, 34, 35, 36, 37, 38, 39, 40, 41, 42, 43, 44, 45, 46, 47, 48, 49, 50, 51, 52, 53, 54, 55, 56, 57, 58, 59, 60, 61, 62, 63, 64, 65, 66, 67, 68, 69, 70, 71, 72, 73, 74, 75, 76, 77, 78, 79, 80, 81, 82, 83, 84, 85, 86, 87, 88] (by decide +kernel) (by decide +kernel)
set_option maxRecDepth 20000 in
theorem gX7_access_X7_visits : GoodIn wsX7_access (wsV RX7 96 RX7 yX7_visits wsX7_visits) := goodIn_app (goodIn_of _ (by decide +kernel)) ggX7_access_X7_visits
set_option maxRecDepth 20000 in
theorem ggX7_stream_X7_in : GoodIn wsX7_stream wsX7_in := goodIn_r _ [5] (by decide +kernel) (by decide +kernel)
set_option maxRecDepth 20000 in
theorem gX7_stream_X7_in : GoodIn wsX7_stream (va_wsS RX7 86 yX7_in wsX7_in) := goodIn_app (goodIn_of _ (by decide +kernel)) ggX7_stream_X7_in
set_option maxRecDepth 20000 in
theorem ggX7_stream_X7_fails : GoodIn wsX7_stream wsX7_fails := goodIn_r _ [9, 1, 78, 79, 80, 81, 82, 83, 84, 85, 86, 87, 88] (by decide +kernel) (by decide +kernel)
set_option maxRecDepth 20000 in
theorem gX7_stream_X7_fails : GoodIn wsX7_stream (wsV RX7 90 RX7 yX7_fails wsX7_fails) := goodIn_app (goodIn_of _ (by decide +kernel)) ggX7_stream_X7_fails
set_option maxRecDepth 20000 in
theorem ggX7_stream_X7_record : GoodIn wsX7_stream wsX7_record := goodIn_r _ [13, 14, 15, 16, 78, 79, 80, 81, 82, 83, 84, 85, 86, 87, 88] (by decide +kernel) (by decide +kernel)
set_option maxRecDepth 20000 in
theorem gX7_stream_X7_record : GoodIn wsX7_stream (wsV RX7 93 RX7 yX7_record wsX7_record) := goodIn_app (goodIn_of _ (by decide +kernel)) ggX7_stream_X7_record
set_option maxRecDepth 20000 in
theorem ggX7_stream_X7_visits : GoodIn wsX7_stream wsX7_visits := goodIn_r _ [20, 16, 21, 22, 23, 4, 24, 25, 26, 27, 28, 29, 30, 31, 32, 33, 34, 35, 36, 37, 38, 39, 40, 41, 42, 43, 44, 45, 46, 47, 48, 49, 50, 51, 52, 53, 54, 55, 56, 57, 58, 59, 60, 61, 62, 63, 64, 65, 66, 67, 68, 69, 70, 71, 72, 73, 74, 75, 76, 77, 78, 79, 80, 81, 82, 83, 84, 85, 86, 87, 88] (by decide +kernel) (by decide +kernel)
set_option maxRecDepth 20000 in
theorem gX7_stream_X7_visits : GoodIn wsX7_stream (wsV RX7 96 RX7 yX7_visits wsX7_visits) := goodIn_app (goodIn_of _ (by decide +kernel)) ggX7_stream_X7_visits
set_option maxRecDepth 20000 in
theorem ggX7_flush_X7_in : GoodIn wsX7_flush wsX7_in := goodIn_r _ [5] (by decide +kernel) (by decide +kernel)
set_option maxRecDepth 20000 in
theorem gX7_flush_X7_in : GoodIn wsX7_flush (va_wsS RX7 86 yX7_in wsX7_in) := goodIn_app (goodIn_of _ (by decide +kernel)) ggX7_flush_X7_in
set_option maxRecDepth 20000 in
theorem ggX7_flush_X7_fails : GoodIn wsX7_flush wsX7_fails := goodIn_r _ [9, 1, 21, 22, 23, 24, 25, 26, 27, 28, 29, 30, 31] (by decide +kernel) (by decide +kernel)
set_option maxRecDepth 20000 in
theorem gX7_flush_X7_fails : GoodIn wsX7_flush (wsV RX7 90 RX7 yX7_fails wsX7_fails) := goodIn_app (goodIn_of _ (by decide +kernel)) ggX7_flush_X7_fails
set_option maxRecDepth 20000 in
theorem ggX7_flush_X7_record : GoodIn wsX7_flush wsX7_record := goodIn_r _ [13, 14, 15, 16, 21, 22, 23, 24, 25, 26, 27, 28, 29, 30, 31] (by decide +kernel) (by decide +kernel)
set_option maxRecDepth 20000 in
theorem gX7_flush_X7_record : GoodIn wsX7_flush (wsV RX7 93 RX7 yX7_record wsX7_record) := goodIn_app (goodIn_of _ (by decide +kernel)) ggX7_flush_X7_record
set_option maxRecDepth 20000 in
theorem ggX7_flush_X7_flushes : GoodIn wsX7_flush wsX7_flushes := goodIn_r _ [20, 16, 21, 22, 23, 24, 25, 26, 27, 28, 29, 30, 31] (by decide +kernel) (by decide +kernel)
set_option maxRecDepth 20000 in
theorem gX7_flush_X7_flushes : GoodIn wsX7_flush (wsV RX7 99 RX7 yX7_flushes wsX7_flushes) := goodIn_app (goodIn_of _ (by decide +kernel)) ggX7_flush_X7_flushes
set_option maxRecDepth 20000 in
theorem ggX7_moveWay_X7_record : GoodIn wsX7_moveWay wsX7_record := goodIn_r _ [6, 7, 8, 9, 43, 44, 45, 46, 47, 48, 49, 50, 51, 52, 53] (by decide +kernel) (by decide +kernel)
set_option maxRecDepth 20000 in
theorem gX7_moveWay_X7_record : GoodIn wsX7_moveWay (wsV RX7 93 RX7 yX7_record wsX7_record) := goodIn_app (goodIn_of _ (by decide +kernel)) ggX7_moveWay_X7_record
set_option maxRecDepth 20000 in
theorem ggX7_moveWay_X7_move : GoodIn wsX7_moveWay wsX7_move := goodIn_r _ [13, 9, 14, 15, 16, 5, 17, 18, 19, 20, 21, 22, 23, 24, 25, 26, 27, 28, 29, 30, 31, 32, 33, 34, 35, 36, 37, 38, 39, 40, 41, 42, 43, 44, 45, 46, 47, 48, 49, 50, 51, 52, 53] (by decide +kernel) (by decide +kernel)
set_option maxRecDepth 20000 in
theorem gX7_moveWay_X7_move : GoodIn wsX7_moveWay (wsV RX7 80 RX7 yX7_move wsX7_move) := goodIn_app (goodIn_of _ (by decide +kernel)) ggX7_moveWay_X7_move
set_option maxRecDepth 20000 in
theorem ggX7_giveWay_X7_in : GoodIn wsX7_giveWay wsX7_in := goodIn_r _ [6] (by decide +kernel) (by decide +kernel)
set_option maxRecDepth 20000 in
theorem gX7_giveWay_X7_in : GoodIn wsX7_giveWay (va_wsS RX7 86 yX7_in wsX7_in) := goodIn_app (goodIn_of _ (by decide +kernel)) ggX7_giveWay_X7_in
set_option maxRecDepth 20000 in
theorem ggX7_giveWay_X7_fails : GoodIn wsX7_giveWay wsX7_fails := goodIn_r _ [10, 1, 17, 18, 19, 20, 21, 22, 23, 24, 25, 26, 27] (by decide +kernel) (by decide +kernel)
set_option maxRecDepth 20000 in
theorem gX7_giveWay_X7_fails : GoodIn wsX7_giveWay (wsV RX7 90 RX7 yX7_fails wsX7_fails) := goodIn_app (goodIn_of _ (by decide +kernel)) ggX7_giveWay_X7_fails
set_option maxRecDepth 20000 in
theorem ggX7_giveWay_X7_record : GoodIn wsX7_giveWay wsX7_record := goodIn_r _ [14, 15, 16, 2, 17, 18, 19, 20, 21, 22, 23, 24, 25, 26, 27] (by decide +kernel) (by decide +kernel)
set_option maxRecDepth 20000 in
theorem gX7_giveWay_X7_record : GoodIn wsX7_giveWay (wsV RX7 93 RX7 yX7_record wsX7_record) := goodIn_app (goodIn_of _ (by decide +kernel)) ggX7_giveWay_X7_record
set_option maxRecDepth 20000 in
theorem ggX7_setLeast_X7_in : GoodIn wsX7_setLeast wsX7_in := goodIn_r _ [6] (by decide +kernel) (by decide +kernel)
set_option maxRecDepth 20000 in
theorem gX7_setLeast_X7_in : GoodIn wsX7_setLeast (va_wsS RX7 86 yX7_in wsX7_in) := goodIn_app (goodIn_of _ (by decide +kernel)) ggX7_setLeast_X7_in
set_option maxRecDepth 20000 in
theorem ggX7_setLeast_X7_fails : GoodIn wsX7_setLeast wsX7_fails := goodIn_r _ [10, 1, 17, 18, 19, 20, 21, 22, 23, 24, 25, 26, 27] (by decide +kernel) (by decide +kernel)
set_option maxRecDepth 20000 in
theorem gX7_setLeast_X7_fails : GoodIn wsX7_setLeast (wsV RX7 90 RX7 yX7_fails wsX7_fails) := goodIn_app (goodIn_of _ (by decide +kernel)) ggX7_setLeast_X7_fails
set_option maxRecDepth 20000 in
theorem ggX7_setLeast_X7_record : GoodIn wsX7_setLeast wsX7_record := goodIn_r _ [14, 15, 16, 2, 17, 18, 19, 20, 21, 22, 23, 24, 25, 26, 27] (by decide +kernel) (by decide +kernel)
set_option maxRecDepth 20000 in
theorem gX7_setLeast_X7_record : GoodIn wsX7_setLeast (wsV RX7 93 RX7 yX7_record wsX7_record) := goodIn_app (goodIn_of _ (by decide +kernel)) ggX7_setLeast_X7_record
set_option maxRecDepth 20000 in
theorem ggX7_setEpoch_X7_in : GoodIn wsX7_setEpoch wsX7_in := goodIn_r _ [6] (by decide +kernel) (by decide +kernel)
set_option maxRecDepth 20000 in
theorem gX7_setEpoch_X7_in : GoodIn wsX7_setEpoch (va_wsS RX7 86 yX7_in wsX7_in) := goodIn_app (goodIn_of _ (by decide +kernel)) ggX7_setEpoch_X7_in
set_option maxRecDepth 20000 in
theorem ggX7_setEpoch_X7_fails : GoodIn wsX7_setEpoch wsX7_fails := goodIn_r _ [10, 1, 17, 18, 19, 20, 21, 22, 23, 24, 25, 26, 27] (by decide +kernel) (by decide +kernel)
set_option maxRecDepth 20000 in
theorem gX7_setEpoch_X7_fails : GoodIn wsX7_setEpoch (wsV RX7 90 RX7 yX7_fails wsX7_fails) := goodIn_app (goodIn_of _ (by decide +kernel)) ggX7_setEpoch_X7_fails
set_option maxRecDepth 20000 in
theorem ggX7_setEpoch_X7_record : GoodIn wsX7_setEpoch wsX7_record := goodIn_r _ [14, 15, 16, 2, 17, 18, 19, 20, 21, 22, 23, 24, 25, 26, 27] (by decide +kernel) (by decide +kernel)
set_option maxRecDepth 20000 in
theorem gX7_setEpoch_X7_record : GoodIn wsX7_setEpoch (wsV RX7 93 RX7 yX7_record wsX7_record) := goodIn_app (goodIn_of _ (by decide +kernel)) ggX7_setEpoch_X7_record
set_option maxRecDepth 20000 in
theorem ggX7_halveGains_X7_record : GoodIn wsX7_halveGains wsX7_record := goodIn_r _ [6, 7, 8, 9, 14, 15, 16, 17, 18, 19, 20, 21, 22, 23, 24] (by decide +kernel) (by decide +kernel)
set_option maxRecDepth 20000 in
theorem gX7_halveGains_X7_record : GoodIn wsX7_halveGains (wsV RX7 93 RX7 yX7_record wsX7_record) := goodIn_app (goodIn_of _ (by decide +kernel)) ggX7_halveGains_X7_record
set_option maxRecDepth 20000 in
theorem ggX7_halveGains_X7_halve : GoodIn wsX7_halveGains wsX7_halve := goodIn_r _ [13, 9, 14, 15, 16, 17, 18, 19, 20, 21, 22, 23, 24] (by decide +kernel) (by decide +kernel)
set_option maxRecDepth 20000 in
theorem gX7_halveGains_X7_halve : GoodIn wsX7_halveGains (wsV RX7 83 RX7 yX7_halve wsX7_halve) := goodIn_app (goodIn_of _ (by decide +kernel)) ggX7_halveGains_X7_halve
set_option maxRecDepth 20000 in
theorem ggX7_appendText_X7_in : GoodIn wsX7_appendText wsX7_in := goodIn_r _ [7] (by decide +kernel) (by decide +kernel)
set_option maxRecDepth 20000 in
theorem gX7_appendText_X7_in : GoodIn wsX7_appendText (va_wsS RX7 86 yX7_in wsX7_in) := goodIn_app (goodIn_of _ (by decide +kernel)) ggX7_appendText_X7_in
set_option maxRecDepth 20000 in
theorem ggX7_appendText_X7_fails : GoodIn wsX7_appendText wsX7_fails := goodIn_r _ [11, 1, 12, 13, 14, 15, 16, 17, 18, 19, 20, 21, 22] (by decide +kernel) (by decide +kernel)
set_option maxRecDepth 20000 in
theorem gX7_appendText_X7_fails : GoodIn wsX7_appendText (wsV RX7 90 RX7 yX7_fails wsX7_fails) := goodIn_app (goodIn_of _ (by decide +kernel)) ggX7_appendText_X7_fails
set_option maxRecDepth 20000 in
theorem ggX7_sees_X7_in : GoodIn wsX7_sees wsX7_in := goodIn_r _ [7] (by decide +kernel) (by decide +kernel)
set_option maxRecDepth 20000 in
theorem gX7_sees_X7_in : GoodIn wsX7_sees (va_wsS RX7 86 yX7_in wsX7_in) := goodIn_app (goodIn_of _ (by decide +kernel)) ggX7_sees_X7_in
set_option maxRecDepth 20000 in
theorem ggX7_takes_X7_sees : GoodIn wsX7_takes wsX7_sees := goodIn_r _ [6, 1, 7, 8, 9, 10, 5, 11, 12, 13, 14, 15, 16, 17, 18, 19, 20, 21, 22] (by decide +kernel) (by decide +kernel)
set_option maxRecDepth 20000 in
theorem gX7_takes_X7_sees : GoodIn wsX7_takes (wsV RX7 108 RX7 yX7_sees wsX7_sees) := goodIn_app (goodIn_of _ (by decide +kernel)) ggX7_takes_X7_sees
set_option maxRecDepth 20000 in
theorem ggX7_reads_X7_sees : GoodIn wsX7_reads wsX7_sees := goodIn_r _ [8, 2, 9, 1, 10, 11, 7, 12, 13, 14, 15, 16, 17, 18, 19, 20, 21, 22, 23] (by decide +kernel) (by decide +kernel)
set_option maxRecDepth 20000 in
theorem gX7_reads_X7_sees : GoodIn wsX7_reads (wsV RX7 108 RX7 yX7_sees wsX7_sees) := goodIn_app (goodIn_of _ (by decide +kernel)) ggX7_reads_X7_sees
set_option maxRecDepth 20000 in
theorem ggX7_command_X7_takes : GoodIn wsX7_command wsX7_takes := goodIn_r _ [7, 2, 8, 9, 10, 6, 11, 12, 1, 13, 14, 15, 21, 22, 23, 24, 25, 26, 27, 28, 29, 30, 31] (by decide +kernel) (by decide +kernel)
set_option maxRecDepth 20000 in
theorem gX7_command_X7_takes : GoodIn wsX7_command (wsV RX7 115 RX7 yX7_takes wsX7_takes) := goodIn_app (goodIn_of _ (by decide +kernel)) ggX7_command_X7_takes
set_option maxRecDepth 20000 in
theorem ggX7_command_X7_sees : GoodIn wsX7_command wsX7_sees := goodIn_r _ [11, 2, 12, 1, 13, 14, 6, 15, 21, 22, 23, 24, 25, 26, 27, 28, 29, 30, 31] (by decide +kernel) (by decide +kernel)
set_option maxRecDepth 20000 in
theorem gX7_command_X7_sees : GoodIn wsX7_command (wsV RX7 108 RX7 yX7_sees wsX7_sees) := goodIn_app (goodIn_of _ (by decide +kernel)) ggX7_command_X7_sees
set_option maxRecDepth 20000 in
theorem ggX7_command_X7_reads : GoodIn wsX7_command wsX7_reads := goodIn_r _ [19, 1, 2, 20, 8, 9, 10, 6, 11, 12, 13, 14, 15, 21, 22, 23, 24, 25, 26, 27, 28, 29, 30, 31] (by decide +kernel) (by decide +kernel)
set_option maxRecDepth 20000 in
theorem gX7_command_X7_reads : GoodIn wsX7_command (wsV RX7 119 RX7 yX7_reads wsX7_reads) := goodIn_app (goodIn_of _ (by decide +kernel)) ggX7_command_X7_reads
set_option maxRecDepth 20000 in
theorem ggX7_isValid_X7_command : GoodIn wsX7_isValid wsX7_command := goodIn_r _ [7, 8, 1, 9, 10, 11, 6, 12, 13, 14, 15, 16, 2, 17, 18, 19, 20, 21, 22, 23, 24, 25, 26, 27, 28, 29, 30, 31, 32, 33, 34, 35] (by decide +kernel) (by decide +kernel)
set_option maxRecDepth 20000 in
theorem gX7_isValid_X7_command : GoodIn wsX7_isValid (wsV RX7 123 RX7 yX7_command wsX7_command) := goodIn_app (goodIn_of _ (by decide +kernel)) ggX7_isValid_X7_command
set_option maxRecDepth 20000 in
theorem ggX7_isValid_X7_takes : GoodIn wsX7_isValid wsX7_takes := goodIn_r _ [12, 1, 13, 14, 15, 6, 16, 2, 8, 17, 18, 19, 25, 26, 27, 28, 29, 30, 31, 32, 33, 34, 35] (by decide +kernel) (by decide +kernel)
set_option maxRecDepth 20000 in
theorem gX7_isValid_X7_takes : GoodIn wsX7_isValid (wsV RX7 115 RX7 yX7_takes wsX7_takes) := goodIn_app (goodIn_of _ (by decide +kernel)) ggX7_isValid_X7_takes
set_option maxRecDepth 20000 in
theorem ggX7_errorPosition_X7_isValid : GoodIn wsX7_errorPosition wsX7_isValid := goodIn_r _ [7, 2, 8, 9, 10, 11, 6, 12, 13, 14, 15, 16, 17, 18, 19, 20, 21, 22, 23, 24, 25, 26, 27, 28, 29, 30, 31, 32, 33, 34, 35, 36, 37, 38, 39, 40] (by decide +kernel) (by decide +kernel)
set_option maxRecDepth 20000 in
theorem gX7_errorPosition_X7_isValid : GoodIn wsX7_errorPosition (wsV RX7 126 RX7 yX7_isValid wsX7_isValid) := goodIn_app (goodIn_of _ (by decide +kernel)) ggX7_errorPosition_X7_isValid
set_option maxRecDepth 20000 in
theorem ggX7_does_X7_move : GoodIn wsX7_does wsX7_move := goodIn_r _ [6, 7, 8, 9, 10, 5, 11, 12, 13, 14, 15, 16, 17, 18, 19, 20, 21, 22, 23, 24, 25, 26, 27, 28, 29, 30, 31, 32, 33, 34, 35, 36, 69, 70, 71, 72, 73, 74, 75, 76, 77, 78, 79] (by decide +kernel) (by decide +kernel)
set_option maxRecDepth 20000 in
theorem gX7_does_X7_move : GoodIn wsX7_does (wsV RX7 80 RX7 yX7_move wsX7_move) := goodIn_app (goodIn_of _ (by decide +kernel)) ggX7_does_X7_move
set_option maxRecDepth 20000 in
theorem ggX7_does_X7_halve : GoodIn wsX7_does wsX7_halve := goodIn_r _ [40, 7, 69, 70, 71, 72, 73, 74, 75, 76, 77, 78, 79] (by decide +kernel) (by decide +kernel)
set_option maxRecDepth 20000 in
theorem gX7_does_X7_halve : GoodIn wsX7_does (wsV RX7 83 RX7 yX7_halve wsX7_halve) := goodIn_app (goodIn_of _ (by decide +kernel)) ggX7_does_X7_halve
set_option maxRecDepth 20000 in
theorem ggX7_does_X7_flushes : GoodIn wsX7_does wsX7_flushes := goodIn_r _ [44, 7, 69, 70, 71, 72, 73, 74, 75, 76, 77, 78, 79] (by decide +kernel) (by decide +kernel)
set_option maxRecDepth 20000 in
theorem gX7_does_X7_flushes : GoodIn wsX7_does (wsV RX7 99 RX7 yX7_flushes wsX7_flushes) := goodIn_app (goodIn_of _ (by decide +kernel)) ggX7_does_X7_flushes
set_option maxRecDepth 20000 in
theorem ggX7_does_X7_visits : GoodIn wsX7_does wsX7_visits := goodIn_r _ [48, 7, 49, 50, 51, 5, 52, 53, 54, 55, 56, 57, 58, 59, 60, 29, 30, 31, 32, 61, 62, 63, 64, 65, 66, 67, 68, 2, 3, 4, 6, 8, 9, 10, 11, 12, 13, 14, 15, 16, 17, 18, 19, 20, 21, 22, 23, 24, 25, 26, 27, 28, 33, 34, 35, 36, 37, 38, 39, 40, 69, 70, 71, 72, 73, 74, 75, 76, 77, 78, 79] (by decide +kernel) (by decide +kernel)
set_option maxRecDepth 20000 in
theorem gX7_does_X7_visits : GoodIn wsX7_does (wsV RX7 96 RX7 yX7_visits wsX7_visits) := goodIn_app (goodIn_of _ (by decide +kernel)) ggX7_does_X7_visits
set_option maxRecDepth 20000 in
theorem ggX7_runText_X7_isValid : GoodIn wsX7_runText wsX7_isValid := goodIn_r _ [8, 2, 3, 9, 10, 11, 7, 12, 13, 14, 15, 16, 17, 18, 19, 20, 21, 22, 23, 24, 25, 26, 27, 28, 29, 110, 111, 112, 113, 114, 115, 116, 117, 118, 119, 120] (by decide +kernel) (by decide +kernel)
set_option maxRecDepth 20000 in
theorem gX7_runText_X7_isValid : GoodIn wsX7_runText (wsV RX7 126 RX7 yX7_isValid wsX7_isValid) := goodIn_app (goodIn_of _ (by decide +kernel)) ggX7_runText_X7_isValid
set_option maxRecDepth 20000 in
theorem ggX7_runText_X7_fails : GoodIn wsX7_runText wsX7_fails := goodIn_r _ [33, 1, 110, 111, 112, 113, 114, 115, 116, 117, 118, 119, 120] (by decide +kernel) (by decide +kernel)
set_option maxRecDepth 20000 in
theorem gX7_runText_X7_fails : GoodIn wsX7_runText (wsV RX7 90 RX7 yX7_fails wsX7_fails) := goodIn_app (goodIn_of _ (by decide +kernel)) ggX7_runText_X7_fails
set_option maxRecDepth 20000 in
theorem ggX7_runText_X7_record : GoodIn wsX7_runText wsX7_record := goodIn_r _ [37, 38, 39, 40, 110, 111, 112, 113, 114, 115, 116, 117, 118, 119, 120] (by decide +kernel) (by decide +kernel)
set_option maxRecDepth 20000 in
theorem gX7_runText_X7_record : GoodIn wsX7_runText (wsV RX7 93 RX7 yX7_record wsX7_record) := goodIn_app (goodIn_of _ (by decide +kernel)) ggX7_runText_X7_record
set_option maxRecDepth 20000 in
theorem ggX7_runText_X7_command : GoodIn wsX7_runText wsX7_command := goodIn_r _ [12, 13, 2, 14, 15, 16, 7, 17, 18, 19, 20, 21, 3, 22, 23, 24, 25, 26, 27, 28, 29, 110, 111, 112, 113, 114, 115, 116, 117, 118, 119, 120] (by decide +kernel) (by decide +kernel)
set_option maxRecDepth 20000 in
theorem gX7_runText_X7_command : GoodIn wsX7_runText (wsV RX7 123 RX7 yX7_command wsX7_command) := goodIn_app (goodIn_of _ (by decide +kernel)) ggX7_runText_X7_command
set_option maxRecDepth 20000 in
theorem ggX7_runText_X7_does : GoodIn wsX7_runText wsX7_does := goodIn_r _ [44, 29, 45, 46, 47, 7, 48, 40, 49, 50, 51, 52, 53, 54, 55, 56, 57, 58, 59, 60, 61, 62, 63, 64, 65, 66, 67, 68, 69, 70, 71, 72, 73, 74, 75, 76, 77, 78, 79, 80, 81, 82, 83, 84, 85, 86, 87, 88, 89, 90, 91, 92, 93, 94, 95, 96, 97, 98, 99, 100, 101, 102, 103, 104, 105, 106, 107, 108, 109, 110, 111, 112, 113, 114, 115, 116, 117, 118, 119, 120] (by decide +kernel) (by decide +kernel)
set_option maxRecDepth 20000 in
theorem gX7_runText_X7_does : GoodIn wsX7_runText (wsV RX7 129 RX7 yX7_does wsX7_does) := goodIn_app (goodIn_of _ (by decide +kernel)) ggX7_runText_X7_does
set_option maxRecDepth 20000 in
theorem ggX7_undo_X7_fails : GoodIn wsX7_undo wsX7_fails := goodIn_r _ [9, 1, 10, 11, 12, 13, 14, 15, 16, 17, 18, 19, 20] (by decide +kernel) (by decide +kernel)
set_option maxRecDepth 20000 in
theorem gX7_undo_X7_fails : GoodIn wsX7_undo (wsV RX7 90 RX7 yX7_fails wsX7_fails) := goodIn_app (goodIn_of _ (by decide +kernel)) ggX7_undo_X7_fails
set_option maxRecDepth 20000 in
theorem ggX7_save_X7_in : GoodIn wsX7_save wsX7_in := goodIn_r _ [8] (by decide +kernel) (by decide +kernel)
set_option maxRecDepth 20000 in
theorem gX7_save_X7_in : GoodIn wsX7_save (va_wsS RX7 86 yX7_in wsX7_in) := goodIn_app (goodIn_of _ (by decide +kernel)) ggX7_save_X7_in
set_option maxRecDepth 20000 in
theorem ggX7_save_X7_fails : GoodIn wsX7_save wsX7_fails := goodIn_r _ [12, 1, 21, 22, 23, 24, 25, 26, 27, 28, 29, 30, 31] (by decide +kernel) (by decide +kernel)
set_option maxRecDepth 20000 in
theorem gX7_save_X7_fails : GoodIn wsX7_save (wsV RX7 90 RX7 yX7_fails wsX7_fails) := goodIn_app (goodIn_of _ (by decide +kernel)) ggX7_save_X7_fails
set_option maxRecDepth 20000 in
theorem ggX7_save_X7_allLines : GoodIn wsX7_save wsX7_allLines := goodIn_r _ [16, 17, 18, 19, 7, 20, 3, 21, 22, 23, 24, 25, 26, 27, 28, 29, 30, 31] (by decide +kernel) (by decide +kernel)
set_option maxRecDepth 20000 in
theorem gX7_save_X7_allLines : GoodIn wsX7_save (wsV RX7 132 RX7 yX7_allLines wsX7_allLines) := goodIn_app (goodIn_of _ (by decide +kernel)) ggX7_save_X7_allLines
set_option maxRecDepth 20000 in
theorem ggX7_restore_X7_in : GoodIn wsX7_restore wsX7_in := goodIn_r _ [8] (by decide +kernel) (by decide +kernel)
set_option maxRecDepth 20000 in
theorem gX7_restore_X7_in : GoodIn wsX7_restore (va_wsS RX7 86 yX7_in wsX7_in) := goodIn_app (goodIn_of _ (by decide +kernel)) ggX7_restore_X7_in
set_option maxRecDepth 20000 in
theorem ggX7_restore_X7_fails : GoodIn wsX7_restore wsX7_fails := goodIn_r _ [12, 1, 27, 28, 29, 30, 31, 32, 33, 34, 35, 36, 37] (by decide +kernel) (by decide +kernel)
set_option maxRecDepth 20000 in
theorem gX7_restore_X7_fails : GoodIn wsX7_restore (wsV RX7 90 RX7 yX7_fails wsX7_fails) := goodIn_app (goodIn_of _ (by decide +kernel)) ggX7_restore_X7_fails
set_option maxRecDepth 20000 in
theorem ggX7_restore_X7_record : GoodIn wsX7_restore wsX7_record := goodIn_r _ [16, 17, 18, 3, 27, 28, 29, 30, 31, 32, 33, 34, 35, 36, 37] (by decide +kernel) (by decide +kernel)
set_option maxRecDepth 20000 in
theorem gX7_restore_X7_record : GoodIn wsX7_restore (wsV RX7 93 RX7 yX7_record wsX7_record) := goodIn_app (goodIn_of _ (by decide +kernel)) ggX7_restore_X7_record
set_option maxRecDepth 20000 in
theorem ggX7_restore_X7_allLines : GoodIn wsX7_restore wsX7_allLines := goodIn_r _ [22, 23, 24, 25, 7, 26, 3, 27, 28, 29, 30, 31, 32, 33, 34, 35, 36, 37] (by decide +kernel) (by decide +kernel)
set_option maxRecDepth 20000 in
theorem gX7_restore_X7_allLines : GoodIn wsX7_restore (wsV RX7 132 RX7 yX7_allLines wsX7_allLines) := goodIn_app (goodIn_of _ (by decide +kernel)) ggX7_restore_X7_allLines
set_option maxRecDepth 20000 in
theorem ggX7_owner_X7_in : GoodIn wsX7_owner wsX7_in := goodIn_r _ [6] (by decide +kernel) (by decide +kernel)
set_option maxRecDepth 20000 in
theorem gX7_owner_X7_in : GoodIn wsX7_owner (va_wsS RX7 86 yX7_in wsX7_in) := goodIn_app (goodIn_of _ (by decide +kernel)) ggX7_owner_X7_in
set_option maxRecDepth 20000 in
theorem ggX7_owner_X7_fails : GoodIn wsX7_owner wsX7_fails := goodIn_r _ [10, 1, 11, 12, 13, 14, 15, 16, 17, 18, 19, 20, 21] (by decide +kernel) (by decide +kernel)
set_option maxRecDepth 20000 in
theorem gX7_owner_X7_fails : GoodIn wsX7_owner (wsV RX7 90 RX7 yX7_fails wsX7_fails) := goodIn_app (goodIn_of _ (by decide +kernel)) ggX7_owner_X7_fails
set_option maxRecDepth 20000 in
theorem ggX7_waysOf_X7_in : GoodIn wsX7_waysOf wsX7_in := goodIn_r _ [5] (by decide +kernel) (by decide +kernel)
set_option maxRecDepth 20000 in
theorem gX7_waysOf_X7_in : GoodIn wsX7_waysOf (va_wsS RX7 86 yX7_in wsX7_in) := goodIn_app (goodIn_of _ (by decide +kernel)) ggX7_waysOf_X7_in
set_option maxRecDepth 20000 in
theorem ggX7_waysOf_X7_owned : GoodIn wsX7_waysOf wsX7_owned := goodIn_r _ [9, 10, 15, 16, 17, 18, 19, 20, 21, 22, 23, 24, 25] (by decide +kernel) (by decide +kernel)
set_option maxRecDepth 20000 in
theorem gX7_waysOf_X7_owned : GoodIn wsX7_waysOf (wsV RX7 44 RX7 yX7_owned wsX7_owned) := goodIn_app (goodIn_of _ (by decide +kernel)) ggX7_waysOf_X7_owned
set_option maxRecDepth 20000 in
theorem ggX7_waysOf_X7_fails : GoodIn wsX7_waysOf wsX7_fails := goodIn_r _ [14, 1, 15, 16, 17, 18, 19, 20, 21, 22, 23, 24, 25] (by decide +kernel) (by decide +kernel)
set_option maxRecDepth 20000 in
theorem gX7_waysOf_X7_fails : GoodIn wsX7_waysOf (wsV RX7 90 RX7 yX7_fails wsX7_fails) := goodIn_app (goodIn_of _ (by decide +kernel)) ggX7_waysOf_X7_fails
set_option maxRecDepth 20000 in
theorem ggX7_line_X7_in : GoodIn wsX7_line wsX7_in := goodIn_r _ [6] (by decide +kernel) (by decide +kernel)
set_option maxRecDepth 20000 in
theorem gX7_line_X7_in : GoodIn wsX7_line (va_wsS RX7 86 yX7_in wsX7_in) := goodIn_app (goodIn_of _ (by decide +kernel)) ggX7_line_X7_in
set_option maxRecDepth 20000 in
theorem ggX7_line_X7_fails : GoodIn wsX7_line wsX7_fails := goodIn_r _ [10, 1, 11, 12, 13, 14, 15, 16, 17, 18, 19, 20, 21] (by decide +kernel) (by decide +kernel)
set_option maxRecDepth 20000 in
theorem gX7_line_X7_fails : GoodIn wsX7_line (wsV RX7 90 RX7 yX7_fails wsX7_fails) := goodIn_app (goodIn_of _ (by decide +kernel)) ggX7_line_X7_fails
set_option maxRecDepth 20000 in
theorem ggX7_lines_X7_in : GoodIn wsX7_lines wsX7_in := goodIn_r _ [5] (by decide +kernel) (by decide +kernel)
set_option maxRecDepth 20000 in
theorem gX7_lines_X7_in : GoodIn wsX7_lines (va_wsS RX7 86 yX7_in wsX7_in) := goodIn_app (goodIn_of _ (by decide +kernel)) ggX7_lines_X7_in
set_option maxRecDepth 20000 in
theorem ggX7_lines_X7_linesOf : GoodIn wsX7_lines wsX7_linesOf := goodIn_r _ [9, 10, 15, 16, 17, 18, 19, 20, 21, 22, 23, 24, 25] (by decide +kernel) (by decide +kernel)
set_option maxRecDepth 20000 in
theorem gX7_lines_X7_linesOf : GoodIn wsX7_lines (wsV RX7 36 RX7 yX7_linesOf wsX7_linesOf) := goodIn_app (goodIn_of _ (by decide +kernel)) ggX7_lines_X7_linesOf
set_option maxRecDepth 20000 in
theorem ggX7_lines_X7_fails : GoodIn wsX7_lines wsX7_fails := goodIn_r _ [14, 1, 15, 16, 17, 18, 19, 20, 21, 22, 23, 24, 25] (by decide +kernel) (by decide +kernel)
set_option maxRecDepth 20000 in
theorem gX7_lines_X7_fails : GoodIn wsX7_lines (wsV RX7 90 RX7 yX7_fails wsX7_fails) := goodIn_app (goodIn_of _ (by decide +kernel)) ggX7_lines_X7_fails
set_option maxRecDepth 20000 in
theorem ggX7_ifAccessed_X7_in : GoodIn wsX7_ifAccessed wsX7_in := goodIn_r _ [5] (by decide +kernel) (by decide +kernel)
set_option maxRecDepth 20000 in
theorem gX7_ifAccessed_X7_in : GoodIn wsX7_ifAccessed (va_wsS RX7 86 yX7_in wsX7_in) := goodIn_app (goodIn_of _ (by decide +kernel)) ggX7_ifAccessed_X7_in
set_option maxRecDepth 20000 in
theorem ggX7_ifAccessed_X7_fails : GoodIn wsX7_ifAccessed wsX7_fails := goodIn_r _ [9, 1, 23, 24, 25, 26, 27, 28, 29, 30, 31, 32, 33] (by decide +kernel) (by decide +kernel)
set_option maxRecDepth 20000 in
theorem gX7_ifAccessed_X7_fails : GoodIn wsX7_ifAccessed (wsV RX7 90 RX7 yX7_fails wsX7_fails) := goodIn_app (goodIn_of _ (by decide +kernel)) ggX7_ifAccessed_X7_fails
set_option maxRecDepth 20000 in
theorem ggX7_ifAccessed_X7_wouldBe : GoodIn wsX7_ifAccessed wsX7_wouldBe := goodIn_r _ [13, 14, 15, 16, 4, 17, 18, 19, 20, 21, 22, 23, 24, 25, 26, 27, 28, 29, 30, 31, 32, 33] (by decide +kernel) (by decide +kernel)
set_option maxRecDepth 20000 in
theorem gX7_ifAccessed_X7_wouldBe : GoodIn wsX7_ifAccessed (wsV RX7 74 RX7 yX7_wouldBe wsX7_wouldBe) := goodIn_app (goodIn_of _ (by decide +kernel)) ggX7_ifAccessed_X7_wouldBe
set_option maxRecDepth 20000 in
theorem ggX7_victim_X7_in : GoodIn wsX7_victim wsX7_in := goodIn_r _ [6] (by decide +kernel) (by decide +kernel)
set_option maxRecDepth 20000 in
theorem gX7_victim_X7_in : GoodIn wsX7_victim (va_wsS RX7 86 yX7_in wsX7_in) := goodIn_app (goodIn_of _ (by decide +kernel)) ggX7_victim_X7_in
set_option maxRecDepth 20000 in
theorem ggX7_victim_X7_fails : GoodIn wsX7_victim wsX7_fails := goodIn_r _ [10, 1, 27, 28, 29, 30, 31, 32, 33, 34, 35, 36, 37] (by decide +kernel) (by decide +kernel)
set_option maxRecDepth 20000 in
theorem gX7_victim_X7_fails : GoodIn wsX7_victim (wsV RX7 90 RX7 yX7_fails wsX7_fails) := goodIn_app (goodIn_of _ (by decide +kernel)) ggX7_victim_X7_fails
set_option maxRecDepth 20000 in
theorem ggX7_victim_X7_wouldBe : GoodIn wsX7_victim wsX7_wouldBe := goodIn_r _ [14, 15, 16, 17, 5, 18, 2, 19, 20, 21, 22, 27, 28, 29, 30, 31, 32, 33, 34, 35, 36, 37] (by decide +kernel) (by decide +kernel)
set_option maxRecDepth 20000 in
theorem gX7_victim_X7_wouldBe : GoodIn wsX7_victim (wsV RX7 74 RX7 yX7_wouldBe wsX7_wouldBe) := goodIn_app (goodIn_of _ (by decide +kernel)) ggX7_victim_X7_wouldBe
set_option maxRecDepth 20000 in
theorem ggX7_victim_X7_placeFor : GoodIn wsX7_victim wsX7_placeFor := goodIn_r _ [26, 2, 27, 28, 29, 30, 31, 32, 33, 34, 35, 36, 37] (by decide +kernel) (by decide +kernel)
set_option maxRecDepth 20000 in
theorem gX7_victim_X7_placeFor : GoodIn wsX7_victim (wsV RX7 67 RX7 yX7_placeFor wsX7_placeFor) := goodIn_app (goodIn_of _ (by decide +kernel)) ggX7_victim_X7_placeFor
set_option maxRecDepth 20000 in
theorem ggX7_gain_X7_in : GoodIn wsX7_gain wsX7_in := goodIn_r _ [6] (by decide +kernel) (by decide +kernel)
set_option maxRecDepth 20000 in
theorem gX7_gain_X7_in : GoodIn wsX7_gain (va_wsS RX7 86 yX7_in wsX7_in) := goodIn_app (goodIn_of _ (by decide +kernel)) ggX7_gain_X7_in
set_option maxRecDepth 20000 in
theorem ggX7_gain_X7_fails : GoodIn wsX7_gain wsX7_fails := goodIn_r _ [10, 1, 11, 12, 13, 14, 15, 16, 17, 18, 19, 20, 21] (by decide +kernel) (by decide +kernel)
set_option maxRecDepth 20000 in
theorem gX7_gain_X7_fails : GoodIn wsX7_gain (wsV RX7 90 RX7 yX7_fails wsX7_fails) := goodIn_app (goodIn_of _ (by decide +kernel)) ggX7_gain_X7_fails
set_option maxRecDepth 20000 in
theorem ggX7_utility_X7_in : GoodIn wsX7_utility wsX7_in := goodIn_r _ [5] (by decide +kernel) (by decide +kernel)
set_option maxRecDepth 20000 in
theorem gX7_utility_X7_in : GoodIn wsX7_utility (va_wsS RX7 86 yX7_in wsX7_in) := goodIn_app (goodIn_of _ (by decide +kernel)) ggX7_utility_X7_in
set_option maxRecDepth 20000 in
theorem ggX7_utility_X7_fails : GoodIn wsX7_utility wsX7_fails := goodIn_r _ [9, 1, 15, 16, 17, 18, 19, 20, 21, 22, 23, 24, 25] (by decide +kernel) (by decide +kernel)
set_option maxRecDepth 20000 in
theorem gX7_utility_X7_fails : GoodIn wsX7_utility (wsV RX7 90 RX7 yX7_fails wsX7_fails) := goodIn_app (goodIn_of _ (by decide +kernel)) ggX7_utility_X7_fails
set_option maxRecDepth 20000 in
theorem ggX7_utility_X7_gained : GoodIn wsX7_utility wsX7_gained := goodIn_r _ [13, 14, 15, 16, 17, 18, 19, 20, 21, 22, 23, 24, 25] (by decide +kernel) (by decide +kernel)
set_option maxRecDepth 20000 in
theorem gX7_utility_X7_gained : GoodIn wsX7_utility (wsV RX7 48 RX7 yX7_gained wsX7_gained) := goodIn_app (goodIn_of _ (by decide +kernel)) ggX7_utility_X7_gained
set_option maxRecDepth 20000 in
theorem ggX7_monitored_X7_in : GoodIn wsX7_monitored wsX7_in := goodIn_r _ [6] (by decide +kernel) (by decide +kernel)
set_option maxRecDepth 20000 in
theorem gX7_monitored_X7_in : GoodIn wsX7_monitored (va_wsS RX7 86 yX7_in wsX7_in) := goodIn_app (goodIn_of _ (by decide +kernel)) ggX7_monitored_X7_in
set_option maxRecDepth 20000 in
theorem ggX7_monitored_X7_fails : GoodIn wsX7_monitored wsX7_fails := goodIn_r _ [10, 1, 11, 12, 13, 14, 15, 16, 17, 18, 19, 20, 21] (by decide +kernel) (by decide +kernel)
set_option maxRecDepth 20000 in
theorem gX7_monitored_X7_fails : GoodIn wsX7_monitored (wsV RX7 90 RX7 yX7_fails wsX7_fails) := goodIn_app (goodIn_of _ (by decide +kernel)) ggX7_monitored_X7_fails
set_option maxRecDepth 20000 in
theorem ggX7_target_X7_findTargets : GoodIn wsX7_target wsX7_findTargets := goodIn_r _ [7, 2, 8, 9, 10, 11, 6, 12, 13, 14, 15, 16, 17, 18, 19, 20, 28, 29, 30, 31, 32, 33, 34, 35, 36, 37, 38] (by decide +kernel) (by decide +kernel)
set_option maxRecDepth 20000 in
theorem gX7_target_X7_findTargets : GoodIn wsX7_target (wsV RX7 58 RX7 yX7_findTargets wsX7_findTargets) := goodIn_app (goodIn_of _ (by decide +kernel)) ggX7_target_X7_findTargets
set_option maxRecDepth 20000 in
theorem ggX7_target_X7_in : GoodIn wsX7_target wsX7_in := goodIn_r _ [23] (by decide +kernel) (by decide +kernel)
set_option maxRecDepth 20000 in
theorem gX7_target_X7_in : GoodIn wsX7_target (va_wsS RX7 86 yX7_in wsX7_in) := goodIn_app (goodIn_of _ (by decide +kernel)) ggX7_target_X7_in
set_option maxRecDepth 20000 in
theorem ggX7_target_X7_fails : GoodIn wsX7_target wsX7_fails := goodIn_r _ [27, 1, 28, 29, 30, 31, 32, 33, 34, 35, 36, 37, 38] (by decide +kernel) (by decide +kernel)
set_option maxRecDepth 20000 in
theorem gX7_target_X7_fails : GoodIn wsX7_target (wsV RX7 90 RX7 yX7_fails wsX7_fails) := goodIn_app (goodIn_of _ (by decide +kernel)) ggX7_target_X7_fails
set_option maxRecDepth 20000 in
theorem ggX7_movesLeft_X7_findTargets : GoodIn wsX7_movesLeft wsX7_findTargets := goodIn_r _ [6, 7, 8, 9, 10, 11, 5, 12, 13, 14, 15, 16, 17, 18, 19, 20, 29, 30, 31, 32, 33, 34, 35, 36, 37, 38, 39] (by decide +kernel) (by decide +kernel)
set_option maxRecDepth 20000 in
theorem gX7_movesLeft_X7_findTargets : GoodIn wsX7_movesLeft (wsV RX7 58 RX7 yX7_findTargets wsX7_findTargets) := goodIn_app (goodIn_of _ (by decide +kernel)) ggX7_movesLeft_X7_findTargets
set_option maxRecDepth 20000 in
theorem ggX7_movesLeft_X7_deficit : GoodIn wsX7_movesLeft wsX7_deficit := goodIn_r _ [24, 7, 25, 26, 27, 5, 28, 8, 29, 30, 31, 32, 33, 34, 35, 36, 37, 38, 39] (by decide +kernel) (by decide +kernel)
set_option maxRecDepth 20000 in
theorem gX7_movesLeft_X7_deficit : GoodIn wsX7_movesLeft (wsV RX7 61 RX7 yX7_deficit wsX7_deficit) := goodIn_app (goodIn_of _ (by decide +kernel)) ggX7_movesLeft_X7_deficit
set_option maxRecDepth 20000 in
theorem ggX7_totalUtility_X7_owned : GoodIn wsX7_totalUtility wsX7_owned := goodIn_r _ [6, 7, 12, 13, 14, 15, 16, 17, 18, 19, 20, 21, 22] (by decide +kernel) (by decide +kernel)
set_option maxRecDepth 20000 in
theorem gX7_totalUtility_X7_owned : GoodIn wsX7_totalUtility (wsV RX7 44 RX7 yX7_owned wsX7_owned) := goodIn_app (goodIn_of _ (by decide +kernel)) ggX7_totalUtility_X7_owned
set_option maxRecDepth 20000 in
theorem ggX7_totalUtility_X7_gained : GoodIn wsX7_totalUtility wsX7_gained := goodIn_r _ [11, 7, 12, 13, 14, 15, 16, 17, 18, 19, 20, 21, 22] (by decide +kernel) (by decide +kernel)
set_option maxRecDepth 20000 in
theorem gX7_totalUtility_X7_gained : GoodIn wsX7_totalUtility (wsV RX7 48 RX7 yX7_gained wsX7_gained) := goodIn_app (goodIn_of _ (by decide +kernel)) ggX7_totalUtility_X7_gained
set_option maxRecDepth 20000 in
theorem ggX7_count_X7_in : GoodIn wsX7_count wsX7_in := goodIn_r _ [6] (by decide +kernel) (by decide +kernel)
set_option maxRecDepth 20000 in
theorem gX7_count_X7_in : GoodIn wsX7_count (va_wsS RX7 86 yX7_in wsX7_in) := goodIn_app (goodIn_of _ (by decide +kernel)) ggX7_count_X7_in
set_option maxRecDepth 20000 in
theorem ggX7_count_X7_fails : GoodIn wsX7_count wsX7_fails := goodIn_r _ [10, 1, 11, 12, 13, 14, 15, 16, 17, 18, 19, 20, 21] (by decide +kernel) (by decide +kernel)
set_option maxRecDepth 20000 in
theorem gX7_count_X7_fails : GoodIn wsX7_count (wsV RX7 90 RX7 yX7_fails wsX7_fails) := goodIn_app (goodIn_of _ (by decide +kernel)) ggX7_count_X7_fails
set_option maxRecDepth 20000 in
theorem ggX7_hitRate_X7_in : GoodIn wsX7_hitRate wsX7_in := goodIn_r _ [6] (by decide +kernel) (by decide +kernel)
set_option maxRecDepth 20000 in
theorem gX7_hitRate_X7_in : GoodIn wsX7_hitRate (va_wsS RX7 86 yX7_in wsX7_in) := goodIn_app (goodIn_of _ (by decide +kernel)) ggX7_hitRate_X7_in
set_option maxRecDepth 20000 in
theorem ggX7_hitRate_X7_fails : GoodIn wsX7_hitRate wsX7_fails := goodIn_r _ [10, 1, 11, 12, 13, 14, 15, 16, 17, 18, 19, 20, 21] (by decide +kernel) (by decide +kernel)
set_option maxRecDepth 20000 in
theorem gX7_hitRate_X7_fails : GoodIn wsX7_hitRate (wsV RX7 90 RX7 yX7_fails wsX7_fails) := goodIn_app (goodIn_of _ (by decide +kernel)) ggX7_hitRate_X7_fails
