set_option maxRecDepth 20000 in
theorem ggX1_init_X4_init : GoodIn wsX1_init wsX4_init := goodIn_r _ [12, 13, 2, 3, 14, 15, 16, 17, 18, 19, 20, 21, 22, 23, 24, 25, 26, 27, 28, 29, 30, 31, 32, 33, 34, 35, 36, 37, 38, 39, 49, 50, 51, 43, 44, 45, 46, 47, 48, 52, 53] (by decide +kernel) (by decide +kernel)
set_option maxRecDepth 20000 in
theorem gX1_init_X4_init : GoodIn wsX1_init (wsX4_init) := ggX1_init_X4_init
set_option maxRecDepth 20000 in
theorem ggX1_push_X4_copyFrom : GoodIn wsX1_push wsX4_copyFrom := goodIn_r _ [8, 9, 10, 11, 12, 13, 14, 15, 16, 17, 18, 19, 20, 21, 22, 23, 24, 25, 26, 27, 28, 29, 30, 31, 32, 33, 34, 35, 39, 40, 41, 42, 43, 44, 45, 46, 47, 48, 49] (by decide +kernel) (by decide +kernel)
set_option maxRecDepth 20000 in
theorem gX1_push_X4_copyFrom : GoodIn wsX1_push (wsV RX1 25 RX4 yX4_copyFrom wsX4_copyFrom) := goodIn_app (goodIn_of _ (by decide +kernel)) ggX1_push_X4_copyFrom
set_option maxRecDepth 20000 in
theorem ggX2_note_X6_isSampled : GoodIn wsX2_note wsX6_isSampled := goodIn_r _ [5] (by decide +kernel) (by decide +kernel)
set_option maxRecDepth 20000 in
theorem gX2_note_X6_isSampled_n24 : GoodIn wsX2_note (wsX6_isSampled) := ggX2_note_X6_isSampled
set_option maxRecDepth 20000 in
theorem ggX2_note_X6_listStart : GoodIn wsX2_note wsX6_listStart := goodIn_r _ [7] (by decide +kernel) (by decide +kernel)
set_option maxRecDepth 20000 in
theorem gX2_note_X6_listStart_n28 : GoodIn wsX2_note (wsX6_listStart) := ggX2_note_X6_listStart
set_option maxRecDepth 20000 in
theorem ggX3_resultOf_X3_placeOf : GoodIn wsX3_resultOf wsX3_placeOf := goodIn_r _ [5, 6, 12, 13, 14] (by decide +kernel) (by decide +kernel)
set_option maxRecDepth 20000 in
theorem gX3_resultOf_X3_placeOf : GoodIn wsX3_resultOf (wsV RX3 27 RX3 yX3_placeOf wsX3_placeOf) := goodIn_app (goodIn_of _ (by decide +kernel)) ggX3_resultOf_X3_placeOf
set_option maxRecDepth 20000 in
theorem ggX3_resultOf_X3_ownedWays : GoodIn wsX3_resultOf wsX3_ownedWays := goodIn_r _ [10, 11, 12, 13, 14] (by decide +kernel) (by decide +kernel)
set_option maxRecDepth 20000 in
theorem gX3_resultOf_X3_ownedWays : GoodIn wsX3_resultOf (wsV RX3 31 RX3 yX3_ownedWays wsX3_ownedWays) := goodIn_app (goodIn_of _ (by decide +kernel)) ggX3_resultOf_X3_ownedWays
set_option maxRecDepth 20000 in
theorem ggX3_renew_X3_placeOf : GoodIn wsX3_renew wsX3_placeOf := goodIn_r _ [6, 7, 8, 9, 10] (by decide +kernel) (by decide +kernel)
set_option maxRecDepth 20000 in
theorem gX3_renew_X3_placeOf : GoodIn wsX3_renew (wsV RX3 27 RX3 yX3_placeOf wsX3_placeOf) := goodIn_app (goodIn_of _ (by decide +kernel)) ggX3_renew_X3_placeOf
set_option maxRecDepth 20000 in
theorem ggX3_linesInWay_X3_holdsLineOf : GoodIn wsX3_linesInWay wsX3_holdsLineOf := goodIn_r _ [5, 6, 7, 8, 9] (by decide +kernel) (by decide +kernel)
set_option maxRecDepth 20000 in
theorem gX3_linesInWay_X3_holdsLineOf : GoodIn wsX3_linesInWay (wsV RX3 35 RX3 yX3_holdsLineOf wsX3_holdsLineOf) := goodIn_app (goodIn_of _ (by decide +kernel)) ggX3_linesInWay_X3_holdsLineOf
set_option maxRecDepth 20000 in
theorem ggX3_linesOf_X3_linesInWay : GoodIn wsX3_linesOf wsX3_linesInWay := goodIn_r _ [5, 6, 7, 8, 4, 9, 10, 11, 12, 13] (by decide +kernel) (by decide +kernel)
set_option maxRecDepth 20000 in
theorem gX3_linesOf_X3_linesInWay : GoodIn wsX3_linesOf (wsV RX3 39 RX3 yX3_linesInWay wsX3_linesInWay) := goodIn_app (goodIn_of _ (by decide +kernel)) ggX3_linesOf_X3_linesInWay
set_option maxRecDepth 20000 in
theorem ggX3_linesInOwnWays_X3_linesInWay : GoodIn wsX3_linesInOwnWays wsX3_linesInWay := goodIn_r _ [6, 7, 8, 9, 5, 10, 11, 12, 13, 14] (by decide +kernel) (by decide +kernel)
set_option maxRecDepth 20000 in
theorem gX3_linesInOwnWays_X3_linesInWay : GoodIn wsX3_linesInOwnWays (wsV RX3 39 RX3 yX3_linesInWay wsX3_linesInWay) := goodIn_app (goodIn_of _ (by decide +kernel)) ggX3_linesInOwnWays_X3_linesInWay
set_option maxRecDepth 20000 in
theorem ggX3_removeLinesOf_X3_holdsLineOf : GoodIn wsX3_removeLinesOf wsX3_holdsLineOf := goodIn_r _ [6, 1, 7, 8, 9] (by decide +kernel) (by decide +kernel)
set_option maxRecDepth 20000 in
theorem gX3_removeLinesOf_X3_holdsLineOf : GoodIn wsX3_removeLinesOf (wsV RX3 35 RX3 yX3_holdsLineOf wsX3_holdsLineOf) := goodIn_app (goodIn_of _ (by decide +kernel)) ggX3_removeLinesOf_X3_holdsLineOf
set_option maxRecDepth 20000 in
theorem ggX3_wayWithFewestLines_X3_linesInWay : GoodIn wsX3_wayWithFewestLines wsX3_linesInWay := goodIn_r _ [6, 7, 8, 9, 5, 10, 11, 12, 13, 14] (by decide +kernel) (by decide +kernel)
set_option maxRecDepth 20000 in
theorem gX3_wayWithFewestLines_X3_linesInWay : GoodIn wsX3_wayWithFewestLines (wsV RX3 39 RX3 yX3_linesInWay wsX3_linesInWay) := goodIn_app (goodIn_of _ (by decide +kernel)) ggX3_wayWithFewestLines_X3_linesInWay
set_option maxRecDepth 20000 in
theorem ggX4_init_X3_init : GoodIn wsX4_init wsX3_init := goodIn_r _ [19, 20, 2, 3, 12, 21, 22, 23, 30, 31, 32] (by decide +kernel) (by decide +kernel)
set_option maxRecDepth 20000 in
theorem gX4_init_X3_init : GoodIn wsX4_init (wsX3_init) := ggX4_init_X3_init
set_option maxRecDepth 20000 in
theorem ggX4_init_X2_init : GoodIn wsX4_init wsX2_init := goodIn_r _ [26, 27, 2, 3, 12, 28, 29, 39, 40] (by decide +kernel) (by decide +kernel)
set_option maxRecDepth 20000 in
theorem gX4_init_X2_init : GoodIn wsX4_init (wsX2_init) := ggX4_init_X2_init
set_option maxRecDepth 20000 in
theorem ggX4_copyFrom_X3_copyFrom : GoodIn wsX4_copyFrom wsX3_copyFrom := goodIn_r _ [15, 16, 17, 5, 6, 7, 18, 19, 34, 35, 36] (by decide +kernel) (by decide +kernel)
set_option maxRecDepth 20000 in
theorem gX4_copyFrom_X3_copyFrom : GoodIn wsX4_copyFrom (wsV RX4 39 RX3 yX3_copyFrom wsX3_copyFrom) := goodIn_app (goodIn_of _ (by decide +kernel)) ggX4_copyFrom_X3_copyFrom
set_option maxRecDepth 20000 in
theorem ggX4_copyFrom_X2_copyFrom : GoodIn wsX4_copyFrom wsX2_copyFrom := goodIn_r _ [24, 25, 26, 5, 6, 7, 27, 37, 38] (by decide +kernel) (by decide +kernel)
set_option maxRecDepth 20000 in
theorem gX4_copyFrom_X2_copyFrom : GoodIn wsX4_copyFrom (wsV RX4 43 RX2 yX2_copyFrom wsX2_copyFrom) := goodIn_app (goodIn_of _ (by decide +kernel)) ggX4_copyFrom_X2_copyFrom
set_option maxRecDepth 20000 in
theorem ggX5_compute_X5_growOne : GoodIn wsX5_compute wsX5_growOne := goodIn_r _ [8, 1, 9, 10, 11, 12, 7, 13, 14, 21, 22] (by decide +kernel) (by decide +kernel)
set_option maxRecDepth 20000 in
theorem gX5_compute_X5_growOne : GoodIn wsX5_compute (wsV RX5 24 RX5 yX5_growOne wsX5_growOne) := goodIn_app (goodIn_of _ (by decide +kernel)) ggX5_compute_X5_growOne
set_option maxRecDepth 20000 in
theorem ggX5_growOne_X5_lowest : GoodIn wsX5_growOne wsX5_lowest := goodIn_r _ [7, 1, 8] (by decide +kernel) (by decide +kernel)
set_option maxRecDepth 20000 in
theorem gX5_growOne_X5_lowest : GoodIn wsX5_growOne (wsV RX5 33 RX5 yX5_lowest wsX5_lowest) := goodIn_app (goodIn_of _ (by decide +kernel)) ggX5_growOne_X5_lowest
set_option maxRecDepth 20000 in
theorem ggX6_init_X4_init : GoodIn wsX6_init wsX4_init := goodIn_r _ [25, 26, 2, 3, 27, 28, 29, 30, 31, 32, 33, 34, 35, 36, 37, 38, 39, 40, 41, 42, 43, 44, 45, 46, 47, 48, 49, 50, 51, 52, 90, 91, 92, 72, 73, 74, 75, 76, 77, 93, 94] (by decide +kernel) (by decide +kernel)
set_option maxRecDepth 20000 in
theorem gX6_init_X4_init : GoodIn wsX6_init (wsX4_init) := ggX6_init_X4_init
set_option maxRecDepth 20000 in
theorem ggX6_init_X5_init : GoodIn wsX6_init wsX5_init := goodIn_r _ [54, 55, 2, 3, 35, 56, 84] (by decide +kernel) (by decide +kernel)
set_option maxRecDepth 20000 in
theorem gX6_init_X5_init_n18 : GoodIn wsX6_init (wsX5_init) := ggX6_init_X5_init
set_option maxRecDepth 20000 in
theorem ggX6_init_X1_init : GoodIn wsX6_init wsX1_init := goodIn_r _ [59, 60, 2, 3, 61, 62, 63, 64, 5, 6, 65, 24, 25, 26, 27, 28, 29, 30, 31, 32, 33, 34, 35, 36, 37, 38, 39, 40, 41, 42, 43, 44, 45, 46, 47, 48, 49, 50, 51, 52, 85, 86, 87, 72, 73, 74, 75, 76, 77, 90, 91, 92, 93, 94] (by decide +kernel) (by decide +kernel)
set_option maxRecDepth 20000 in
theorem gX6_init_X1_init : GoodIn wsX6_init (wsX1_init) := ggX6_init_X1_init
set_option maxRecDepth 20000 in
theorem ggX6_init_X0_init : GoodIn wsX6_init wsX0_init := goodIn_r _ [67, 68, 2, 3, 69, 70, 71, 88, 89] (by decide +kernel) (by decide +kernel)
set_option maxRecDepth 20000 in
theorem gX6_init_X0_init_n32 : GoodIn wsX6_init (wsX0_init) := ggX6_init_X0_init
set_option maxRecDepth 20000 in
theorem ggX6_access_X6_requireTenant : GoodIn wsX6_access wsX6_requireTenant := goodIn_ca (goodIn_r _ [6, 7, 8, 5, 9, 10, 11] (by decide +kernel) (by decide +kernel)) (goodIn_sub (fun _ h => List.mem_cons_of_mem _ (List.mem_append_left _ (List.mem_append_right _ h))) (by decide +kernel))
set_option maxRecDepth 20000 in
theorem gX6_access_X6_requireTenant : GoodIn wsX6_access (va_wsS RX6 45 yX6_requireTenant wsX6_requireTenant) := goodIn_app (goodIn_of _ (by decide +kernel)) ggX6_access_X6_requireTenant
set_option maxRecDepth 20000 in
theorem ggX6_access_X6_requireArgument : GoodIn wsX6_access wsX6_requireArgument := goodIn_ca (goodIn_r _ [14, 15, 16] (by decide +kernel) (by decide +kernel)) (goodIn_sub (fun _ h => List.mem_cons_of_mem _ (List.mem_append_right _ h)) (by decide +kernel))
set_option maxRecDepth 20000 in
theorem gX6_access_X6_requireArgument : GoodIn wsX6_access (va_wsS RX6 49 yX6_requireArgument wsX6_requireArgument) := goodIn_app (goodIn_of _ (by decide +kernel)) ggX6_access_X6_requireArgument
set_option maxRecDepth 20000 in
theorem ggX6_access_X1_push : GoodIn wsX6_access wsX1_push := goodIn_r _ [21, 22, 23, 24, 25, 26, 27, 28, 29, 30, 31, 32, 33, 34, 35, 36, 37, 38, 39, 40, 41, 42, 43, 44, 45, 46, 47, 48, 49, 50, 51, 52, 53, 54, 55, 56, 152, 153, 154, 155, 156, 157, 158, 159, 160, 161, 162, 163, 164, 165] (by decide +kernel) (by decide +kernel)
set_option maxRecDepth 20000 in
theorem gX6_access_X1_push : GoodIn wsX6_access (wsV RX6 53 RX1 yX1_push wsX1_push) := goodIn_app (goodIn_of _ (by decide +kernel)) ggX6_access_X1_push
set_option maxRecDepth 20000 in
theorem ggX6_access_X6_makeAccess : GoodIn wsX6_access wsX6_makeAccess := goodIn_r _ [60, 2, 61, 62, 63, 64, 65, 66, 67, 68, 52, 69, 54, 56, 70, 5, 71, 72, 73, 74, 75, 76, 43, 77, 78, 79, 80, 81, 47, 82, 83, 84, 85, 45, 86, 87, 88, 89, 48, 90, 91, 92, 93, 94, 95, 96, 97, 98, 99, 100, 101, 102, 103, 104, 105, 106, 107, 108, 109, 110, 111, 112, 113, 114, 115, 116, 117, 118, 119, 120, 121, 122, 123, 124, 125, 126, 127, 128, 129, 130, 131, 132, 133, 134, 135, 136, 137, 138, 139, 140, 141, 142, 143, 144, 145, 146, 147, 148, 149, 150, 151, 155, 156, 157, 158, 159, 160, 164, 165, 161, 162, 163, 166] (by decide +kernel) (by decide +kernel)
set_option maxRecDepth 20000 in
theorem gX6_access_X6_makeAccess : GoodIn wsX6_access (wsV RX6 57 RX6 yX6_makeAccess wsX6_makeAccess) := goodIn_app (goodIn_of _ (by decide +kernel)) ggX6_access_X6_makeAccess
set_option maxRecDepth 20000 in
theorem ggX6_stream_X6_requireTenant : GoodIn wsX6_stream wsX6_requireTenant := goodIn_ca (goodIn_r _ [6, 7, 8, 5, 9, 10, 11] (by decide +kernel) (by decide +kernel)) (goodIn_sub (fun _ h => List.mem_cons_of_mem _ (List.mem_append_left _ (List.mem_append_right _ h))) (by decide +kernel))
set_option maxRecDepth 20000 in
theorem gX6_stream_X6_requireTenant : GoodIn wsX6_stream (va_wsS RX6 45 yX6_requireTenant wsX6_requireTenant) := goodIn_app (goodIn_of _ (by decide +kernel)) ggX6_stream_X6_requireTenant
set_option maxRecDepth 20000 in
theorem ggX6_stream_X6_requireArgument : GoodIn wsX6_stream wsX6_requireArgument := goodIn_ca (goodIn_r _ [14, 15, 16] (by decide +kernel) (by decide +kernel)) (goodIn_sub (fun _ h => List.mem_cons_of_mem _ (List.mem_append_right _ h)) (by decide +kernel))
set_option maxRecDepth 20000 in
theorem gX6_stream_X6_requireArgument : GoodIn wsX6_stream (va_wsS RX6 49 yX6_requireArgument wsX6_requireArgument) := goodIn_app (goodIn_of _ (by decide +kernel)) ggX6_stream_X6_requireArgument
set_option maxRecDepth 20000 in
theorem ggX6_stream_X1_push : GoodIn wsX6_stream wsX1_push := goodIn_r _ [21, 22, 23, 24, 25, 26, 27, 28, 29, 30, 31, 32, 33, 34, 35, 36, 37, 38, 39, 40, 41, 42, 43, 44, 45, 46, 47, 48, 49, 50, 51, 52, 53, 54, 55, 56, 152, 153, 154, 155, 156, 157, 158, 159, 160, 161, 162, 163, 164, 165] (by decide +kernel) (by decide +kernel)
set_option maxRecDepth 20000 in
theorem gX6_stream_X1_push : GoodIn wsX6_stream (wsV RX6 53 RX1 yX1_push wsX1_push) := goodIn_app (goodIn_of _ (by decide +kernel)) ggX6_stream_X1_push
set_option maxRecDepth 20000 in
theorem ggX6_stream_X6_makeAccess : GoodIn wsX6_stream wsX6_makeAccess := goodIn_r _ [60, 2, 61, 62, 63, 64, 65, 66, 67, 68, 52, 69, 54, 56, 70, 5, 71, 72, 73, 74, 75, 76, 43, 77, 78, 79, 80, 81, 47, 82, 83, 84, 85, 45, 86, 87, 88, 89, 48, 90, 91, 92, 93, 94, 95, 96, 97, 98, 99, 100, 101, 102, 103, 104, 105, 106, 107, 108, 109, 110, 111, 112, 113, 114, 115, 116, 117, 118, 119, 120, 121, 122, 123, 124, 125, 126, 127, 128, 129, 130, 131, 132, 133, 134, 135, 136, 137, 138, 139, 140, 141, 142, 143, 144, 145, 146, 147, 148, 149, 150, 151, 155, 156, 157, 158, 159, 160, 164, 165, 161, 162, 163, 166] (by decide +kernel) (by decide +kernel)
set_option maxRecDepth 20000 in
theorem gX6_stream_X6_makeAccess : GoodIn wsX6_stream (wsV RX6 57 RX6 yX6_makeAccess wsX6_makeAccess) := goodIn_app (goodIn_of _ (by decide +kernel)) ggX6_stream_X6_makeAccess
set_option maxRecDepth 20000 in
theorem ggX6_flush_X6_requireTenant : GoodIn wsX6_flush wsX6_requireTenant := goodIn_ca (goodIn_r _ [7, 8, 9, 6, 10, 11, 12] (by decide +kernel) (by decide +kernel)) (goodIn_sub (fun _ h => List.mem_cons_of_mem _ (List.mem_append_right _ h)) (by decide +kernel))
set_option maxRecDepth 20000 in
theorem gX6_flush_X6_requireTenant : GoodIn wsX6_flush (va_wsS RX6 45 yX6_requireTenant wsX6_requireTenant) := goodIn_app (goodIn_of _ (by decide +kernel)) ggX6_flush_X6_requireTenant
set_option maxRecDepth 20000 in
theorem ggX6_flush_X1_push : GoodIn wsX6_flush wsX1_push := goodIn_r _ [17, 18, 19, 20, 21, 22, 23, 24, 25, 26, 27, 28, 29, 30, 31, 32, 33, 34, 35, 36, 37, 38, 39, 40, 41, 42, 43, 44, 45, 46, 47, 48, 49, 50, 51, 52, 73, 74, 75, 67, 68, 69, 70, 71, 72, 76, 77, 78, 79, 80] (by decide +kernel) (by decide +kernel)
set_option maxRecDepth 20000 in
theorem gX6_flush_X1_push : GoodIn wsX6_flush (wsV RX6 53 RX1 yX1_push wsX1_push) := goodIn_app (goodIn_of _ (by decide +kernel)) ggX6_flush_X1_push
set_option maxRecDepth 20000 in
theorem ggX6_flush_X3_removeLinesOf : GoodIn wsX6_flush wsX3_removeLinesOf := goodIn_r _ [56, 43, 57, 58, 59, 39, 60, 76, 77, 78] (by decide +kernel) (by decide +kernel)
set_option maxRecDepth 20000 in
theorem gX6_flush_X3_removeLinesOf : GoodIn wsX6_flush (wsV RX6 65 RX3 yX3_removeLinesOf wsX3_removeLinesOf) := goodIn_app (goodIn_of _ (by decide +kernel)) ggX6_flush_X3_removeLinesOf
set_option maxRecDepth 20000 in
theorem ggX6_moveWay_X1_push : GoodIn wsX6_moveWay wsX1_push := goodIn_r _ [7, 8, 9, 10, 11, 12, 13, 14, 15, 16, 17, 18, 19, 20, 21, 22, 23, 24, 25, 26, 27, 28, 29, 30, 31, 32, 33, 34, 35, 36, 37, 38, 39, 40, 41, 42, 95, 96, 97, 98, 99, 100, 101, 102, 103, 104, 105, 106, 107, 108] (by decide +kernel) (by decide +kernel)
set_option maxRecDepth 20000 in
theorem gX6_moveWay_X1_push : GoodIn wsX6_moveWay (wsV RX6 53 RX1 yX1_push wsX1_push) := goodIn_app (goodIn_of _ (by decide +kernel)) ggX6_moveWay_X1_push
set_option maxRecDepth 20000 in
theorem ggX6_moveWay_X6_moveOneWay : GoodIn wsX6_moveWay wsX6_moveOneWay := goodIn_r _ [47, 48, 2, 49, 50, 51, 52, 53, 54, 55, 56, 57, 58, 59, 60, 61, 62, 63, 64, 65, 66, 67, 68, 69, 70, 46, 71, 72, 73, 74, 75, 29, 76, 31, 77, 78, 79, 80, 81, 82, 83, 84, 85, 86, 87, 88, 33, 89, 90, 91, 92, 93, 94, 98, 99, 100, 101, 102, 103, 104, 105, 106, 109, 107, 108] (by decide +kernel) (by decide +kernel)
set_option maxRecDepth 20000 in
theorem gX6_moveWay_X6_moveOneWay : GoodIn wsX6_moveWay (wsV RX6 71 RX6 yX6_moveOneWay wsX6_moveOneWay) := goodIn_app (goodIn_of _ (by decide +kernel)) ggX6_moveWay_X6_moveOneWay
set_option maxRecDepth 20000 in
theorem ggX6_giveWay_X6_requireIndex : GoodIn wsX6_giveWay wsX6_requireIndex := goodIn_ca (goodIn_r _ [8, 9, 10] (by decide +kernel) (by decide +kernel)) (goodIn_sub (fun _ h => List.mem_cons_of_mem _ (List.mem_append_right _ h)) (by decide +kernel))
set_option maxRecDepth 20000 in
theorem gX6_giveWay_X6_requireIndex : GoodIn wsX6_giveWay (va_wsS RX6 75 yX6_requireIndex wsX6_requireIndex) := goodIn_app (goodIn_of _ (by decide +kernel)) ggX6_giveWay_X6_requireIndex
set_option maxRecDepth 20000 in
theorem ggX6_giveWay_X6_requireTenant : GoodIn wsX6_giveWay wsX6_requireTenant := goodIn_ca (goodIn_r _ [13, 5, 6, 7, 8, 9, 10] (by decide +kernel) (by decide +kernel)) (goodIn_sub (fun _ h => List.mem_cons_of_mem _ (List.mem_append_right _ h)) (by decide +kernel))
set_option maxRecDepth 20000 in
theorem gX6_giveWay_X6_requireTenant : GoodIn wsX6_giveWay (va_wsS RX6 45 yX6_requireTenant wsX6_requireTenant) := goodIn_app (goodIn_of _ (by decide +kernel)) ggX6_giveWay_X6_requireTenant
set_option maxRecDepth 20000 in
theorem ggX6_giveWay_X1_push : GoodIn wsX6_giveWay wsX1_push := goodIn_r _ [18, 19, 20, 21, 22, 23, 24, 25, 26, 27, 28, 29, 30, 31, 32, 33, 34, 35, 36, 37, 38, 39, 40, 41, 42, 43, 44, 45, 46, 47, 48, 49, 50, 51, 52, 53, 69, 70, 71, 60, 61, 62, 63, 64, 65, 66, 67, 68, 72, 73] (by decide +kernel) (by decide +kernel)
set_option maxRecDepth 20000 in
theorem gX6_giveWay_X1_push : GoodIn wsX6_giveWay (wsV RX6 53 RX1 yX1_push wsX1_push) := goodIn_app (goodIn_of _ (by decide +kernel)) ggX6_giveWay_X1_push
set_option maxRecDepth 20000 in
theorem ggX6_setLeast_X6_requireTenant : GoodIn wsX6_setLeast wsX6_requireTenant := goodIn_ca (goodIn_r _ [7, 8, 9, 6, 10, 11, 12] (by decide +kernel) (by decide +kernel)) (goodIn_sub (fun _ h => List.mem_cons_of_mem _ (List.mem_append_left _ (List.mem_append_right _ h))) (by decide +kernel))
set_option maxRecDepth 20000 in
theorem gX6_setLeast_X6_requireTenant : GoodIn wsX6_setLeast (va_wsS RX6 45 yX6_requireTenant wsX6_requireTenant) := goodIn_app (goodIn_of _ (by decide +kernel)) ggX6_setLeast_X6_requireTenant
set_option maxRecDepth 20000 in
theorem ggX6_setLeast_X6_requireArgument : GoodIn wsX6_setLeast wsX6_requireArgument := goodIn_ca (goodIn_r _ [15, 16, 17] (by decide +kernel) (by decide +kernel)) (goodIn_sub (fun _ h => List.mem_cons_of_mem _ (List.mem_append_right _ h)) (by decide +kernel))
set_option maxRecDepth 20000 in
theorem gX6_setLeast_X6_requireArgument : GoodIn wsX6_setLeast (va_wsS RX6 49 yX6_requireArgument wsX6_requireArgument) := goodIn_app (goodIn_of _ (by decide +kernel)) ggX6_setLeast_X6_requireArgument
set_option maxRecDepth 20000 in
theorem ggX6_setLeast_X1_push : GoodIn wsX6_setLeast wsX1_push := goodIn_r _ [22, 23, 24, 25, 26, 27, 28, 29, 30, 31, 32, 33, 34, 35, 36, 37, 38, 39, 40, 41, 42, 43, 44, 45, 46, 47, 48, 49, 50, 51, 52, 53, 54, 55, 56, 57, 70, 71, 72, 64, 65, 66, 67, 68, 69, 73, 74, 75, 76, 77] (by decide +kernel) (by decide +kernel)
set_option maxRecDepth 20000 in
theorem gX6_setLeast_X1_push : GoodIn wsX6_setLeast (wsV RX6 53 RX1 yX1_push wsX1_push) := goodIn_app (goodIn_of _ (by decide +kernel)) ggX6_setLeast_X1_push
set_option maxRecDepth 20000 in
theorem ggX6_halveGains_X1_push : GoodIn wsX6_halveGains wsX1_push := goodIn_r _ [8, 9, 10, 11, 12, 13, 14, 15, 16, 17, 18, 19, 20, 21, 22, 23, 24, 25, 26, 27, 28, 29, 30, 31, 32, 33, 34, 35, 36, 37, 38, 39, 40, 41, 42, 43, 64, 65, 66, 58, 59, 60, 61, 62, 63, 67, 68, 69, 70, 71] (by decide +kernel) (by decide +kernel)
set_option maxRecDepth 20000 in
theorem gX6_halveGains_X1_push : GoodIn wsX6_halveGains (wsV RX6 53 RX1 yX1_push wsX1_push) := goodIn_app (goodIn_of _ (by decide +kernel)) ggX6_halveGains_X1_push
set_option maxRecDepth 20000 in
theorem ggX6_halveGains_X2_halve : GoodIn wsX6_halveGains wsX2_halve := goodIn_r _ [47, 43, 70, 71] (by decide +kernel) (by decide +kernel)
set_option maxRecDepth 20000 in
theorem gX6_halveGains_X2_halve : GoodIn wsX6_halveGains (wsV RX6 94 RX2 yX2_halve wsX2_halve) := goodIn_app (goodIn_of _ (by decide +kernel)) ggX6_halveGains_X2_halve
set_option maxRecDepth 20000 in
theorem ggX6_halveGains_X2_sumOfGains : GoodIn wsX6_halveGains wsX2_sumOfGains := goodIn_r _ [51, 43, 70, 71] (by decide +kernel) (by decide +kernel)
set_option maxRecDepth 20000 in
theorem gX6_halveGains_X2_sumOfGains : GoodIn wsX6_halveGains (wsV RX6 99 RX2 yX2_sumOfGains wsX2_sumOfGains) := goodIn_app (goodIn_of _ (by decide +kernel)) ggX6_halveGains_X2_sumOfGains
set_option maxRecDepth 20000 in
theorem ggX6_owner_X6_requireIndex : GoodIn wsX6_owner wsX6_requireIndex := goodIn_ca (goodIn_r _ [7, 8, 9] (by decide +kernel) (by decide +kernel)) (goodIn_sub (fun _ h => List.mem_cons_of_mem _ (List.mem_append_right _ h)) (by decide +kernel))
set_option maxRecDepth 20000 in
theorem gX6_owner_X6_requireIndex : GoodIn wsX6_owner (va_wsS RX6 75 yX6_requireIndex wsX6_requireIndex) := goodIn_app (goodIn_of _ (by decide +kernel)) ggX6_owner_X6_requireIndex
set_option maxRecDepth 20000 in
theorem ggX6_waysOf_X6_requireTenant : GoodIn wsX6_waysOf wsX6_requireTenant := goodIn_ca (goodIn_r _ [6, 7, 8, 5, 9, 10, 11] (by decide +kernel) (by decide +kernel)) (goodIn_sub (fun _ h => List.mem_cons_of_mem _ (List.mem_append_right _ h)) (by decide +kernel))
set_option maxRecDepth 20000 in
theorem gX6_waysOf_X6_requireTenant : GoodIn wsX6_waysOf (va_wsS RX6 45 yX6_requireTenant wsX6_requireTenant) := goodIn_app (goodIn_of _ (by decide +kernel)) ggX6_waysOf_X6_requireTenant
set_option maxRecDepth 20000 in
theorem ggX6_waysOf_X3_ownedWays : GoodIn wsX6_waysOf wsX3_ownedWays := goodIn_r _ [16, 17, 30, 31, 32] (by decide +kernel) (by decide +kernel)
set_option maxRecDepth 20000 in
theorem gX6_waysOf_X3_ownedWays : GoodIn wsX6_waysOf (wsV RX6 144 RX3 yX3_ownedWays wsX3_ownedWays) := goodIn_app (goodIn_of _ (by decide +kernel)) ggX6_waysOf_X3_ownedWays
set_option maxRecDepth 20000 in
theorem ggX6_line_X6_requireIndex : GoodIn wsX6_line wsX6_requireIndex := goodIn_ca (goodIn_r _ [7, 8, 9] (by decide +kernel) (by decide +kernel)) (goodIn_sub (fun _ h => List.mem_cons_of_mem _ (List.mem_append_right _ h)) (by decide +kernel))
set_option maxRecDepth 20000 in
theorem gX6_line_X6_requireIndex : GoodIn wsX6_line (va_wsS RX6 75 yX6_requireIndex wsX6_requireIndex) := goodIn_app (goodIn_of _ (by decide +kernel)) ggX6_line_X6_requireIndex
set_option maxRecDepth 20000 in
theorem ggX6_lines_X6_requireTenant : GoodIn wsX6_lines wsX6_requireTenant := goodIn_ca (goodIn_r _ [6, 7, 8, 5, 9, 10, 11] (by decide +kernel) (by decide +kernel)) (goodIn_sub (fun _ h => List.mem_cons_of_mem _ (List.mem_append_right _ h)) (by decide +kernel))
set_option maxRecDepth 20000 in
theorem gX6_lines_X6_requireTenant : GoodIn wsX6_lines (va_wsS RX6 45 yX6_requireTenant wsX6_requireTenant) := goodIn_app (goodIn_of _ (by decide +kernel)) ggX6_lines_X6_requireTenant
set_option maxRecDepth 20000 in
theorem ggX6_lines_X3_linesInOwnWays : GoodIn wsX6_lines wsX3_linesInOwnWays := goodIn_r _ [16, 17, 18, 19, 20, 15, 21, 22, 23, 24, 25, 26, 43, 44, 45] (by decide +kernel) (by decide +kernel)
set_option maxRecDepth 20000 in
theorem gX6_lines_X3_linesInOwnWays : GoodIn wsX6_lines (wsV RX6 150 RX3 yX3_linesInOwnWays wsX3_linesInOwnWays) := goodIn_app (goodIn_of _ (by decide +kernel)) ggX6_lines_X3_linesInOwnWays
set_option maxRecDepth 20000 in
theorem ggX6_lines_X3_linesOf : GoodIn wsX6_lines wsX3_linesOf := goodIn_r _ [30, 18, 19, 20, 15, 21, 22, 23, 24, 25, 26, 43, 44, 45] (by decide +kernel) (by decide +kernel)
set_option maxRecDepth 20000 in
theorem gX6_lines_X3_linesOf : GoodIn wsX6_lines (wsV RX6 153 RX3 yX3_linesOf wsX3_linesOf) := goodIn_app (goodIn_of _ (by decide +kernel)) ggX6_lines_X3_linesOf
set_option maxRecDepth 20000 in
theorem ggX6_ifAccessed_X6_requireTenant : GoodIn wsX6_ifAccessed wsX6_requireTenant := goodIn_ca (goodIn_r _ [6, 7, 8, 5, 9, 10, 11] (by decide +kernel) (by decide +kernel)) (goodIn_sub (fun _ h => List.mem_cons_of_mem _ (List.mem_append_left _ (List.mem_append_right _ h))) (by decide +kernel))
set_option maxRecDepth 20000 in
theorem gX6_ifAccessed_X6_requireTenant : GoodIn wsX6_ifAccessed (va_wsS RX6 45 yX6_requireTenant wsX6_requireTenant) := goodIn_app (goodIn_of _ (by decide +kernel)) ggX6_ifAccessed_X6_requireTenant
set_option maxRecDepth 20000 in
theorem ggX6_ifAccessed_X6_requireArgument : GoodIn wsX6_ifAccessed wsX6_requireArgument := goodIn_ca (goodIn_r _ [14, 15, 16] (by decide +kernel) (by decide +kernel)) (goodIn_sub (fun _ h => List.mem_cons_of_mem _ (List.mem_append_right _ h)) (by decide +kernel))
set_option maxRecDepth 20000 in
theorem gX6_ifAccessed_X6_requireArgument : GoodIn wsX6_ifAccessed (va_wsS RX6 49 yX6_requireArgument wsX6_requireArgument) := goodIn_app (goodIn_of _ (by decide +kernel)) ggX6_ifAccessed_X6_requireArgument
set_option maxRecDepth 20000 in
theorem ggX6_ifAccessed_X3_resultOf : GoodIn wsX6_ifAccessed wsX3_resultOf := goodIn_r _ [21, 22, 23, 24, 20, 25, 26, 27, 28, 29, 30, 31, 44, 45, 46] (by decide +kernel) (by decide +kernel)
set_option maxRecDepth 20000 in
theorem gX6_ifAccessed_X3_resultOf : GoodIn wsX6_ifAccessed (wsV RX6 156 RX3 yX3_resultOf wsX3_resultOf) := goodIn_app (goodIn_of _ (by decide +kernel)) ggX6_ifAccessed_X3_resultOf
set_option maxRecDepth 20000 in
theorem ggX6_victim_X6_requireTenant : GoodIn wsX6_victim wsX6_requireTenant := goodIn_ca (goodIn_r _ [7, 8, 9, 6, 10, 11, 12] (by decide +kernel) (by decide +kernel)) (goodIn_sub (fun _ h => List.mem_cons_of_mem _ (List.mem_append_left _ (List.mem_append_right _ h))) (by decide +kernel))
set_option maxRecDepth 20000 in
theorem gX6_victim_X6_requireTenant : GoodIn wsX6_victim (va_wsS RX6 45 yX6_requireTenant wsX6_requireTenant) := goodIn_app (goodIn_of _ (by decide +kernel)) ggX6_victim_X6_requireTenant
set_option maxRecDepth 20000 in
theorem ggX6_victim_X6_requireArgument : GoodIn wsX6_victim wsX6_requireArgument := goodIn_ca (goodIn_r _ [15, 16, 17] (by decide +kernel) (by decide +kernel)) (goodIn_sub (fun _ h => List.mem_cons_of_mem _ (List.mem_append_right _ h)) (by decide +kernel))
set_option maxRecDepth 20000 in
theorem gX6_victim_X6_requireArgument : GoodIn wsX6_victim (va_wsS RX6 49 yX6_requireArgument wsX6_requireArgument) := goodIn_app (goodIn_of _ (by decide +kernel)) ggX6_victim_X6_requireArgument
set_option maxRecDepth 20000 in
theorem ggX6_victim_X3_resultOf : GoodIn wsX6_victim wsX3_resultOf := goodIn_r _ [22, 23, 24, 25, 21, 26, 27, 28, 29, 30, 31, 32, 50, 51, 52] (by decide +kernel) (by decide +kernel)
set_option maxRecDepth 20000 in
theorem gX6_victim_X3_resultOf : GoodIn wsX6_victim (wsV RX6 156 RX3 yX3_resultOf wsX3_resultOf) := goodIn_app (goodIn_of _ (by decide +kernel)) ggX6_victim_X3_resultOf
set_option maxRecDepth 20000 in
theorem ggX6_victim_X3_placeToFill : GoodIn wsX6_victim wsX3_placeToFill := goodIn_r _ [36, 32, 27, 37, 50, 51, 52] (by decide +kernel) (by decide +kernel)
set_option maxRecDepth 20000 in
theorem gX6_victim_X3_placeToFill : GoodIn wsX6_victim (wsV RX6 159 RX3 yX3_placeToFill wsX3_placeToFill) := goodIn_app (goodIn_of _ (by decide +kernel)) ggX6_victim_X3_placeToFill
set_option maxRecDepth 20000 in
theorem ggX6_gain_X6_requireTenant : GoodIn wsX6_gain wsX6_requireTenant := goodIn_ca (goodIn_r _ [7, 8, 9, 6, 10, 11, 12] (by decide +kernel) (by decide +kernel)) (goodIn_sub (fun _ h => List.mem_cons_of_mem _ (List.mem_append_right _ h)) (by decide +kernel))
set_option maxRecDepth 20000 in
theorem gX6_gain_X6_requireTenant : GoodIn wsX6_gain (va_wsS RX6 45 yX6_requireTenant wsX6_requireTenant) := goodIn_app (goodIn_of _ (by decide +kernel)) ggX6_gain_X6_requireTenant
set_option maxRecDepth 20000 in
theorem ggX6_gain_X6_requireIndex : GoodIn wsX6_gain wsX6_requireIndex := goodIn_ca (goodIn_r _ [10, 11, 12] (by decide +kernel) (by decide +kernel)) (goodIn_sub (fun _ h => List.mem_cons_of_mem _ (List.mem_append_right _ h)) (by decide +kernel))
set_option maxRecDepth 20000 in
theorem gX6_gain_X6_requireIndex : GoodIn wsX6_gain (va_wsS RX6 75 yX6_requireIndex wsX6_requireIndex) := goodIn_app (goodIn_of _ (by decide +kernel)) ggX6_gain_X6_requireIndex
set_option maxRecDepth 20000 in
theorem ggX6_utility_X6_requireTenant : GoodIn wsX6_utility wsX6_requireTenant := goodIn_ca (goodIn_r _ [6, 7, 8, 5, 9, 10, 11] (by decide +kernel) (by decide +kernel)) (goodIn_sub (fun _ h => List.mem_cons_of_mem _ (List.mem_append_left _ (List.mem_append_right _ h))) (by decide +kernel))
set_option maxRecDepth 20000 in
theorem gX6_utility_X6_requireTenant : GoodIn wsX6_utility (va_wsS RX6 45 yX6_requireTenant wsX6_requireTenant) := goodIn_app (goodIn_of _ (by decide +kernel)) ggX6_utility_X6_requireTenant
set_option maxRecDepth 20000 in
theorem ggX6_utility_X6_requireArgument : GoodIn wsX6_utility wsX6_requireArgument := goodIn_ca (goodIn_r _ [14, 15, 16] (by decide +kernel) (by decide +kernel)) (goodIn_sub (fun _ h => List.mem_cons_of_mem _ (List.mem_append_right _ h)) (by decide +kernel))
set_option maxRecDepth 20000 in
theorem gX6_utility_X6_requireArgument : GoodIn wsX6_utility (va_wsS RX6 49 yX6_requireArgument wsX6_requireArgument) := goodIn_app (goodIn_of _ (by decide +kernel)) ggX6_utility_X6_requireArgument
set_option maxRecDepth 20000 in
theorem ggX6_utility_X2_utilityOf : GoodIn wsX6_utility wsX2_utilityOf := goodIn_r _ [21, 22, 35, 36] (by decide +kernel) (by decide +kernel)
set_option maxRecDepth 20000 in
theorem gX6_utility_X2_utilityOf : GoodIn wsX6_utility (wsV RX6 165 RX2 yX2_utilityOf wsX2_utilityOf) := goodIn_app (goodIn_of _ (by decide +kernel)) ggX6_utility_X2_utilityOf
set_option maxRecDepth 20000 in
theorem ggX6_monitored_X6_requireTenant : GoodIn wsX6_monitored wsX6_requireTenant := goodIn_ca (goodIn_r _ [9, 10, 11, 8, 12, 1, 2] (by decide +kernel) (by decide +kernel)) (goodIn_sub (fun _ h => List.mem_cons_of_mem _ (List.mem_append_right _ h)) (by decide +kernel))
set_option maxRecDepth 20000 in
theorem gX6_monitored_X6_requireTenant : GoodIn wsX6_monitored (va_wsS RX6 45 yX6_requireTenant wsX6_requireTenant) := goodIn_app (goodIn_of _ (by decide +kernel)) ggX6_monitored_X6_requireTenant
set_option maxRecDepth 20000 in
theorem ggX6_monitored_X6_isSampled : GoodIn wsX6_monitored wsX6_isSampled := goodIn_r _ [15] (by decide +kernel) (by decide +kernel)
set_option maxRecDepth 20000 in
theorem gX6_monitored_X6_isSampled : GoodIn wsX6_monitored (va_wsS RX6 168 yX6_isSampled wsX6_isSampled) := goodIn_app (goodIn_of _ (by decide +kernel)) ggX6_monitored_X6_isSampled
set_option maxRecDepth 20000 in
theorem ggX6_monitored_X6_requireIndex : GoodIn wsX6_monitored wsX6_requireIndex := goodIn_ca (goodIn_r _ [12, 1, 2] (by decide +kernel) (by decide +kernel)) (goodIn_sub (fun _ h => List.mem_cons_of_mem _ (List.mem_append_right _ h)) (by decide +kernel))
set_option maxRecDepth 20000 in
theorem gX6_monitored_X6_requireIndex : GoodIn wsX6_monitored (va_wsS RX6 75 yX6_requireIndex wsX6_requireIndex) := goodIn_app (goodIn_of _ (by decide +kernel)) ggX6_monitored_X6_requireIndex
set_option maxRecDepth 20000 in
theorem ggX6_monitored_X6_listStart : GoodIn wsX6_monitored wsX6_listStart := goodIn_r _ [18] (by decide +kernel) (by decide +kernel)
set_option maxRecDepth 20000 in
theorem gX6_monitored_X6_listStart : GoodIn wsX6_monitored (va_wsS RX6 179 yX6_listStart wsX6_listStart) := goodIn_app (goodIn_of _ (by decide +kernel)) ggX6_monitored_X6_listStart
set_option maxRecDepth 20000 in
theorem ggX6_target_X6_requireTenant : GoodIn wsX6_target wsX6_requireTenant := goodIn_ca (goodIn_r _ [7, 8, 9, 6, 10, 11, 12] (by decide +kernel) (by decide +kernel)) (goodIn_sub (fun _ h => List.mem_cons_of_mem _ (List.mem_append_right _ h)) (by decide +kernel))
set_option maxRecDepth 20000 in
theorem gX6_target_X6_requireTenant : GoodIn wsX6_target (va_wsS RX6 45 yX6_requireTenant wsX6_requireTenant) := goodIn_app (goodIn_of _ (by decide +kernel)) ggX6_target_X6_requireTenant
set_option maxRecDepth 20000 in
theorem ggX6_target_X5_compute : GoodIn wsX6_target wsX5_compute := goodIn_r _ [17, 18, 19, 20, 21, 22, 23, 16, 24, 25, 26, 27, 28, 29, 36, 37, 38, 39, 40, 41, 42, 43, 44] (by decide +kernel) (by decide +kernel)
set_option maxRecDepth 20000 in
theorem gX6_target_X5_compute : GoodIn wsX6_target (wsV RX6 182 RX5 yX5_compute wsX5_compute) := goodIn_app (goodIn_of _ (by decide +kernel)) ggX6_target_X5_compute
set_option maxRecDepth 20000 in
theorem ggX6_movesLeft_X5_compute : GoodIn wsX6_movesLeft wsX5_compute := goodIn_r _ [11, 12, 13, 14, 15, 16, 17, 10, 18, 19, 20, 21, 22, 23, 43, 44, 45, 46, 47, 48, 49, 50, 51] (by decide +kernel) (by decide +kernel)
set_option maxRecDepth 20000 in
theorem gX6_movesLeft_X5_compute : GoodIn wsX6_movesLeft (wsV RX6 182 RX5 yX5_compute wsX5_compute) := goodIn_app (goodIn_of _ (by decide +kernel)) ggX6_movesLeft_X5_compute
set_option maxRecDepth 20000 in
theorem ggX6_movesLeft_X6_deficitOf : GoodIn wsX6_movesLeft wsX6_deficitOf := goodIn_r _ [28, 1, 29, 2, 30, 31, 32, 33, 34, 35, 36, 37, 38, 39, 40, 41, 42, 43, 44, 45, 46, 47, 48, 49, 52, 53, 54] (by decide +kernel) (by decide +kernel)
set_option maxRecDepth 20000 in
theorem gX6_movesLeft_X6_deficitOf : GoodIn wsX6_movesLeft (wsV RX6 188 RX6 yX6_deficitOf wsX6_deficitOf) := goodIn_app (goodIn_of _ (by decide +kernel)) ggX6_movesLeft_X6_deficitOf
set_option maxRecDepth 20000 in
theorem ggX6_count_X6_requireTenant : GoodIn wsX6_count wsX6_requireTenant := goodIn_ca (goodIn_r _ [6, 7, 8, 5, 9, 10, 11] (by decide +kernel) (by decide +kernel)) (goodIn_sub (fun _ h => List.mem_cons_of_mem _ (List.mem_append_left _ (List.mem_append_right _ h))) (by decide +kernel))
set_option maxRecDepth 20000 in
theorem gX6_count_X6_requireTenant : GoodIn wsX6_count (va_wsS RX6 45 yX6_requireTenant wsX6_requireTenant) := goodIn_app (goodIn_of _ (by decide +kernel)) ggX6_count_X6_requireTenant
set_option maxRecDepth 20000 in
theorem ggX6_count_X6_requireArgument : GoodIn wsX6_count wsX6_requireArgument := goodIn_ca (goodIn_r _ [14, 15, 16] (by decide +kernel) (by decide +kernel)) (goodIn_sub (fun _ h => List.mem_cons_of_mem _ (List.mem_append_right _ h)) (by decide +kernel))
set_option maxRecDepth 20000 in
theorem gX6_count_X6_requireArgument : GoodIn wsX6_count (va_wsS RX6 49 yX6_requireArgument wsX6_requireArgument) := goodIn_app (goodIn_of _ (by decide +kernel)) ggX6_count_X6_requireArgument
set_option maxRecDepth 20000 in
theorem ggX6_requireTenant_X6_requireIndex : GoodIn wsX6_requireTenant wsX6_requireIndex := goodIn_ca (goodIn_r _ [4, 5, 6] (by decide +kernel) (by decide +kernel)) (goodIn_sub (fun _ h => List.mem_cons_of_mem _ (List.mem_append_right _ h)) (by decide +kernel))
set_option maxRecDepth 20000 in
theorem gX6_requireTenant_X6_requireIndex : GoodIn wsX6_requireTenant (va_wsS RX6 75 yX6_requireIndex wsX6_requireIndex) := goodIn_app (goodIn_of _ (by decide +kernel)) ggX6_requireTenant_X6_requireIndex
set_option maxRecDepth 20000 in
theorem ggX6_makeAccess_X2_note : GoodIn wsX6_makeAccess wsX2_note := goodIn_r _ [11, 12, 13, 14, 15, 16, 17, 18, 107, 108] (by decide +kernel) (by decide +kernel)
set_option maxRecDepth 20000 in
theorem gX6_makeAccess_X2_note : GoodIn wsX6_makeAccess (wsV RX6 209 RX2 yX2_note wsX2_note) := goodIn_app (goodIn_of _ (by decide +kernel)) ggX6_makeAccess_X2_note
set_option maxRecDepth 20000 in
theorem ggX6_makeAccess_X3_resultOf : GoodIn wsX6_makeAccess wsX3_resultOf := goodIn_r _ [23, 24, 25, 26, 22, 27, 28, 29, 30, 31, 32, 33, 109, 110, 111] (by decide +kernel) (by decide +kernel)
set_option maxRecDepth 20000 in
theorem gX6_makeAccess_X3_resultOf : GoodIn wsX6_makeAccess (wsV RX6 156 RX3 yX3_resultOf wsX3_resultOf) := goodIn_app (goodIn_of _ (by decide +kernel)) ggX6_makeAccess_X3_resultOf
set_option maxRecDepth 20000 in
theorem ggX6_makeAccess_X3_renew : GoodIn wsX6_makeAccess wsX3_renew := goodIn_r _ [37, 38, 24, 25, 26, 22, 27, 28, 109, 110, 111] (by decide +kernel) (by decide +kernel)
set_option maxRecDepth 20000 in
theorem gX6_makeAccess_X3_renew : GoodIn wsX6_makeAccess (wsV RX6 212 RX3 yX3_renew wsX3_renew) := goodIn_app (goodIn_of _ (by decide +kernel)) ggX6_makeAccess_X3_renew
set_option maxRecDepth 20000 in
theorem ggX6_makeAccess_X6_bringIn : GoodIn wsX6_makeAccess wsX6_bringIn := goodIn_r _ [42, 1, 4, 5, 43, 44, 3, 45, 46, 47, 22, 48, 33, 28, 38, 49, 50, 51, 52, 95, 96, 97, 98, 99, 100, 101, 102, 103, 104, 105, 106, 109, 110, 111] (by decide +kernel) (by decide +kernel)
set_option maxRecDepth 20000 in
theorem gX6_makeAccess_X6_bringIn : GoodIn wsX6_makeAccess (wsV RX6 215 RX6 yX6_bringIn wsX6_bringIn) := goodIn_app (goodIn_of _ (by decide +kernel)) ggX6_makeAccess_X6_bringIn
set_option maxRecDepth 20000 in
theorem ggX6_makeAccess_X6_moveOneWay : GoodIn wsX6_makeAccess wsX6_moveOneWay := goodIn_r _ [56, 57, 1, 4, 58, 59, 60, 61, 62, 63, 64, 65, 66, 67, 68, 69, 70, 71, 72, 73, 74, 75, 76, 77, 78, 15, 79, 80, 81, 30, 31, 22, 32, 33, 82, 83, 84, 85, 86, 87, 88, 89, 90, 50, 51, 52, 28, 95, 96, 97, 98, 99, 100, 101, 102, 103, 104, 105, 106, 109, 110, 111, 112, 107, 108] (by decide +kernel) (by decide +kernel)
set_option maxRecDepth 20000 in
theorem gX6_makeAccess_X6_moveOneWay : GoodIn wsX6_makeAccess (wsV RX6 71 RX6 yX6_moveOneWay wsX6_moveOneWay) := goodIn_app (goodIn_of _ (by decide +kernel)) ggX6_makeAccess_X6_moveOneWay
set_option maxRecDepth 20000 in
theorem ggX6_makeAccess_X2_halve : GoodIn wsX6_makeAccess wsX2_halve := goodIn_r _ [94, 13, 107, 108] (by decide +kernel) (by decide +kernel)
set_option maxRecDepth 20000 in
theorem gX6_makeAccess_X2_halve : GoodIn wsX6_makeAccess (wsV RX6 94 RX2 yX2_halve wsX2_halve) := goodIn_app (goodIn_of _ (by decide +kernel)) ggX6_makeAccess_X2_halve
set_option maxRecDepth 20000 in
theorem ggX6_bringIn_X3_placeToFill : GoodIn wsX6_bringIn wsX3_placeToFill := goodIn_r _ [11, 12, 13, 14, 31, 32, 33] (by decide +kernel) (by decide +kernel)
set_option maxRecDepth 20000 in
theorem gX6_bringIn_X3_placeToFill : GoodIn wsX6_bringIn (wsV RX6 159 RX3 yX3_placeToFill wsX3_placeToFill) := goodIn_app (goodIn_of _ (by decide +kernel)) ggX6_bringIn_X3_placeToFill
set_option maxRecDepth 20000 in
theorem ggX6_bringIn_X3_holdsLineOf : GoodIn wsX6_bringIn wsX3_holdsLineOf := goodIn_r _ [18, 13, 31, 32, 33] (by decide +kernel) (by decide +kernel)
set_option maxRecDepth 20000 in
theorem gX6_bringIn_X3_holdsLineOf : GoodIn wsX6_bringIn (wsV RX6 218 RX3 yX3_holdsLineOf wsX3_holdsLineOf) := goodIn_app (goodIn_of _ (by decide +kernel)) ggX6_bringIn_X3_holdsLineOf
set_option maxRecDepth 20000 in
theorem ggX6_moveOneWay_X5_compute : GoodIn wsX6_moveOneWay wsX5_compute := goodIn_r _ [9, 10, 11, 12, 13, 14, 15, 8, 16, 17, 18, 19, 20, 21, 62, 53, 54, 55, 56, 57, 58, 63, 64] (by decide +kernel) (by decide +kernel)
set_option maxRecDepth 20000 in
theorem gX6_moveOneWay_X5_compute : GoodIn wsX6_moveOneWay (wsV RX6 182 RX5 yX5_compute wsX5_compute) := goodIn_app (goodIn_of _ (by decide +kernel)) ggX6_moveOneWay_X5_compute
set_option maxRecDepth 20000 in
theorem ggX6_moveOneWay_X6_deficitOf : GoodIn wsX6_moveOneWay wsX6_deficitOf := goodIn_r _ [26, 1, 27, 2, 3, 28, 29, 30, 31, 32, 33, 47, 48, 49, 50, 51, 52, 62, 53, 54, 55, 56, 57, 58, 59, 60, 61] (by decide +kernel) (by decide +kernel)
set_option maxRecDepth 20000 in
theorem gX6_moveOneWay_X6_deficitOf : GoodIn wsX6_moveOneWay (wsV RX6 188 RX6 yX6_deficitOf wsX6_deficitOf) := goodIn_app (goodIn_of _ (by decide +kernel)) ggX6_moveOneWay_X6_deficitOf
set_option maxRecDepth 20000 in
theorem ggX6_moveOneWay_X3_wayWithFewestLines : GoodIn wsX6_moveOneWay wsX3_wayWithFewestLines := goodIn_r _ [37, 33, 38, 39, 40, 31, 41, 42, 43, 44, 45, 46, 59, 60, 61] (by decide +kernel) (by decide +kernel)
set_option maxRecDepth 20000 in
theorem gX6_moveOneWay_X3_wayWithFewestLines : GoodIn wsX6_moveOneWay (wsV RX6 225 RX3 yX3_wayWithFewestLines wsX3_wayWithFewestLines) := goodIn_app (goodIn_of _ (by decide +kernel)) ggX6_moveOneWay_X3_wayWithFewestLines
set_option maxRecDepth 20000 in
theorem ggX6_deficitOf_X3_ownedWays : GoodIn wsX6_deficitOf wsX3_ownedWays := goodIn_r _ [9, 10, 24, 25, 26] (by decide +kernel) (by decide +kernel)
set_option maxRecDepth 20000 in
theorem gX6_deficitOf_X3_ownedWays : GoodIn wsX6_deficitOf (wsV RX6 144 RX3 yX3_ownedWays wsX3_ownedWays) := goodIn_app (goodIn_of _ (by decide +kernel)) ggX6_deficitOf_X3_ownedWays
