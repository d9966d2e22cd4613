set_option maxRecDepth 20000 in
theorem ggX6_init_X4_init : GoodIn wsX6_init wsX4_init := goodIn_r _ [25, 26, 2, 3, 27, 28, 29, 30, 31, 32, 33, 34, 35, 36, 37, 38, 39, 40, 41, 42, 43, 44, 45, 46, 47, 48, 49, 50, 51, 52, 90, 91, 92, 72, 73, 74, 75, 76, 77, 93, 94] (by decide +kernel) (by decide +kernel)
set_option maxRecDepth 20000 in
theorem gX6_init_X4_init : GoodIn wsX6_init (wsX4_init) := ggX6_init_X4_init
set_option maxRecDepth 20000 in
theorem ggX6_init_X5_init : GoodIn wsX6_init wsX5_init := goodIn_r _ [54, 55, 2, 3, 35, 56, 84] (by decide +kernel) (by decide +kernel)
set_option maxRecDepth 20000 in
theorem gX6_init_X5_init_n18 : GoodIn wsX6_init (wsX5_init) := ggX6_init_X5_init
set_option maxRecDepth 20000 in
theorem ggX6_init_X1_init : GoodIn wsX6_init wsX1_init := goodIn_r _ [59, 60, 2, 3, 61, 62, 63, 64, 5, 6, 65, 24, 25, 26, 27, 28, 29, 30, 31, 32, 33, 34, 35, 36, 37, 38, 39, 40, 41, 42, 43, 44, 45, 46, 47, 48, 49, 50, 51, 52, 85, 86, 87, 72, 73, 74, 75, 76, 77, 90, 91, 92, 93, 94] (by decide +kernel) (by decide +kernel)
set_option maxRecDepth 20000 in
theorem gX6_init_X1_init : GoodIn wsX6_init (wsX1_init) := ggX6_init_X1_init
set_option maxRecDepth 20000 in
theorem ggX6_init_X0_init : GoodIn wsX6_init wsX0_init := goodIn_r _ [67, 68, 2, 3, 69, 70, 71, 88, 89] (by decide +kernel) (by decide +kernel)
set_option maxRecDepth 20000 in
theorem gX6_init_X0_init_n32 : GoodIn wsX6_init (wsX0_init) := ggX6_init_X0_init
set_option maxRecDepth 20000 in
theorem ggX6_access_X6_requireTenant : GoodIn wsX6_access wsX6_requireTenant := goodIn_ca (goodIn_r _ [6, 7, 8, 5, 9, 10, 11] (by decide +kernel) (by decide +kernel)) (goodIn_sub (fun _ h => List.mem_cons_of_mem _ (List.mem_append_left _ (List.mem_append_right _ h))) (by decide +kernel))
set_option maxRecDepth 20000 in
theorem gX6_access_X6_requireTenant : GoodIn wsX6_access (va_wsS RX6 45 yX6_requireTenant wsX6_requireTenant) := goodIn_app (goodIn_of _ (by decide +kernel)) ggX6_access_X6_requireTenant
set_option maxRecDepth 20000 in
theorem ggX6_access_X6_requireArgument : GoodIn wsX6_access wsX6_requireArgument := goodIn_ca (goodIn_r _ [14, 15, 16] (by decide +kernel) (by decide +kernel)) (goodIn_sub (fun _ h => List.mem_cons_of_mem _ (List.mem_append_right _ h)) (by decide +kernel))
set_option maxRecDepth 20000 in
theorem gX6_access_X6_requireArgument : GoodIn wsX6_access (va_wsS RX6 49 yX6_requireArgument wsX6_requireArgument) := goodIn_app (goodIn_of _ (by decide +kernel)) ggX6_access_X6_requireArgument
set_option maxRecDepth 20000 in
theorem ggX6_access_X1_push : GoodIn wsX6_access wsX1_push := goodIn_r _ [21, 22, 23, 24, 25, 26, 27, 28, 29, 30, 31, 32, 33, 34, 35, 36, 37, 38, 39, 40, 41, 42, 43, 44, 45, 46, 47, 48, 49, 50, 51, 52, 53, 54, 55, 56, 152, 153, 154, 155, 156, 157, 158, 159, 160, 161, 162, 163, 164, 165] (by decide +kernel) (by decide +kernel)
set_option maxRecDepth 20000 in
theorem gX6_access_X1_push : GoodIn wsX6_access (wsV RX6 53 RX1 yX1_push wsX1_push) := goodIn_app (goodIn_of _ (by decide +kernel)) ggX6_access_X1_push
set_option maxRecDepth 20000 in
theorem ggX6_access_X6_makeAccess : GoodIn wsX6_access wsX6_makeAccess := goodIn_r _ [60, 2, 61, 62, 63, 64, 65, 66, 67, 68, 52, 69, 54, 56, 70, 5, 71, 72, 73, 74, 75, 76, 43, 77, 78, 79, 80, 81, 47, 82, 83, 84, 85, 45, 86, 87, 88, 89, 48, 90, 91, 92, 93, 94, 95, 96, 97, 98, 99, 100, 101, 102, 103, 104, 105, 106, 107, 108, 109, 110, 111, 112, 113, 114, 115, 116, 117, 118, 119, 120, 121, 122, 123, 124, 125, 126, 127, 128, 129, 130, 131, 132, 133, 134, 135, 136, 137, 138, 139, 140, 141, 142, 143, 144, 145, 146, 147, 148, 149, 150, 151, 155, 156, 157, 158, 159, 160, 164, 165, 161, 162, 163, 166] (by decide +kernel) (by decide +kernel)
set_option maxRecDepth 20000 in
theorem gX6_access_X6_makeAccess : GoodIn wsX6_access (wsV RX6 57 RX6 yX6_makeAccess wsX6_makeAccess) := goodIn_app (goodIn_of _ (by decide +kernel)) ggX6_access_X6_makeAccess
set_option maxRecDepth 20000 in
theorem ggX6_stream_X6_requireTenant : GoodIn wsX6_stream wsX6_requireTenant := goodIn_ca (goodIn_r _ [6, 7, 8, 5, 9, 10, 11] (by decide +kernel) (by decide +kernel)) (goodIn_sub (fun _ h => List.mem_cons_of_mem _ (List.mem_append_left _ (List.mem_append_right _ h))) (by decide +kernel))
set_option maxRecDepth 20000 in
theorem gX6_stream_X6_requireTenant : GoodIn wsX6_stream (va_wsS RX6 45 yX6_requireTenant wsX6_requireTenant) := goodIn_app (goodIn_of _ (by decide +kernel)) ggX6_stream_X6_requireTenant
set_option maxRecDepth 20000 in
theorem ggX6_stream_X6_requireArgument : GoodIn wsX6_stream wsX6_requireArgument := goodIn_ca (goodIn_r _ [14, 15, 16] (by decide +kernel) (by decide +kernel)) (goodIn_sub (fun _ h => List.mem_cons_of_mem _ (List.mem_append_right _ h)) (by decide +kernel))
set_option maxRecDepth 20000 in
theorem gX6_stream_X6_requireArgument : GoodIn wsX6_stream (va_wsS RX6 49 yX6_requireArgument wsX6_requireArgument) := goodIn_app (goodIn_of _ (by decide +kernel)) ggX6_stream_X6_requireArgument
set_option maxRecDepth 20000 in
theorem ggX6_stream_X1_push : GoodIn wsX6_stream wsX1_push := goodIn_r _ [21, 22, 23, 24, 25, 26, 27, 28, 29, 30, 31, 32, 33, 34, 35, 36, 37, 38, 39, 40, 41, 42, 43, 44, 45, 46, 47, 48, 49, 50, 51, 52, 53, 54, 55, 56, 152, 153, 154, 155, 156, 157, 158, 159, 160, 161, 162, 163, 164, 165] (by decide +kernel) (by decide +kernel)
set_option maxRecDepth 20000 in
theorem gX6_stream_X1_push : GoodIn wsX6_stream (wsV RX6 53 RX1 yX1_push wsX1_push) := goodIn_app (goodIn_of _ (by decide +kernel)) ggX6_stream_X1_push
set_option maxRecDepth 20000 in
theorem ggX6_stream_X6_makeAccess : GoodIn wsX6_stream wsX6_makeAccess := goodIn_r _ [60, 2, 61, 62, 63, 64, 65, 66, 67, 68, 52, 69, 54, 56, 70, 5, 71, 72, 73, 74, 75, 76, 43, 77, 78, 79, 80, 81, 47, 82, 83, 84, 85, 45, 86, 87, 88, 89, 48, 90, 91, 92, 93, 94, 95, 96, 97, 98, 99, 100, 101, 102, 103, 104, 105, 106, 107, 108, 109, 110, 111, 112, 113, 114, 115, 116, 117, 118, 119, 120, 121, 122, 123, 124, 125, 126, 127, 128, 129, 130, 131, 132, 133, 134, 135, 136, 137, 138, 139, 140, 141, 142, 143, 144, 145, 146, 147, 148, 149, 150, 151, 155, 156, 157, 158, 159, 160, 164, 165, 161, 162, 163, 166] (by decide +kernel) (by decide +kernel)
set_option maxRecDepth 20000 in
theorem gX6_stream_X6_makeAccess : GoodIn wsX6_stream (wsV RX6 57 RX6 yX6_makeAccess wsX6_makeAccess) := goodIn_app (goodIn_of _ (by decide +kernel)) ggX6_stream_X6_makeAccess
set_option maxRecDepth 20000 in
theorem ggX6_flush_X6_requireTenant : GoodIn wsX6_flush wsX6_requireTenant := goodIn_ca (goodIn_r _ [7, 8, 9, 6, 10, 11, 12] (by decide +kernel) (by decide +kernel)) (goodIn_sub (fun _ h => List.mem_cons_of_mem _ (List.mem_append_right _ h)) (by decide +kernel))
set_option maxRecDepth 20000 in
theorem gX6_flush_X6_requireTenant : GoodIn wsX6_flush (va_wsS RX6 45 yX6_requireTenant wsX6_requireTenant) := goodIn_app (goodIn_of _ (by decide +kernel)) ggX6_flush_X6_requireTenant
set_option maxRecDepth 20000 in
theorem ggX6_flush_X1_push : GoodIn wsX6_flush wsX1_push := goodIn_r _ [17, 18, 19, 20, 21, 22, 23, 24, 25, 26, 27, 28, 29, 30, 31, 32, 33, 34, 35, 36, 37, 38, 39, 40, 41, 42, 43, 44, 45, 46, 47, 48, 49, 50, 51, 52, 73, 74, 75, 67, 68, 69, 70, 71, 72, 76, 77, 78, 79, 80] (by decide +kernel) (by decide +kernel)
set_option maxRecDepth 20000 in
theorem gX6_flush_X1_push : GoodIn wsX6_flush (wsV RX6 53 RX1 yX1_push wsX1_push) := goodIn_app (goodIn_of _ (by decide +kernel)) ggX6_flush_X1_push
set_option maxRecDepth 20000 in
theorem ggX6_flush_X3_removeLinesOf : GoodIn wsX6_flush wsX3_removeLinesOf := goodIn_r _ [56, 43, 57, 58, 59, 39, 60, 76, 77, 78] (by decide +kernel) (by decide +kernel)
set_option maxRecDepth 20000 in
theorem gX6_flush_X3_removeLinesOf : GoodIn wsX6_flush (wsV RX6 65 RX3 yX3_removeLinesOf wsX3_removeLinesOf) := goodIn_app (goodIn_of _ (by decide +kernel)) ggX6_flush_X3_removeLinesOf
set_option maxRecDepth 20000 in
theorem ggX6_moveWay_X1_push : GoodIn wsX6_moveWay wsX1_push := goodIn_r _ [7, 8, 9, 10, 11, 12, 13, 14, 15, 16, 17, 18, 19, 20, 21, 22, 23, 24, 25, 26, 27, 28, 29, 30, 31, 32, 33, 34, 35, 36, 37, 38, 39, 40, 41, 42, 95, 96, 97, 98, 99, 100, 101, 102, 103, 104, 105, 106, 107, 108] (by decide +kernel) (by decide +kernel)
set_option maxRecDepth 20000 in
theorem gX6_moveWay_X1_push : GoodIn wsX6_moveWay (wsV RX6 53 RX1 yX1_push wsX1_push) := goodIn_app (goodIn_of _ (by decide +kernel)) ggX6_moveWay_X1_push
set_option maxRecDepth 20000 in
theorem ggX6_moveWay_X6_moveOneWay : GoodIn wsX6_moveWay wsX6_moveOneWay := goodIn_r _ [47, 48, 2, 49, 50, 51, 52, 53, 54, 55, 56, 57, 58, 59, 60, 61, 62, 63, 64, 65, 66, 67, 68, 69, 70, 46, 71, 72, 73, 74, 75, 29, 76, 31, 77, 78, 79, 80, 81, 82, 83, 84, 85, 86, 87, 88, 33, 89, 90, 91, 92, 93, 94, 98, 99, 100, 101, 102, 103, 104, 105, 106, 109, 107, 108] (by decide +kernel) (by decide +kernel)
set_option maxRecDepth 20000 in
theorem gX6_moveWay_X6_moveOneWay : GoodIn wsX6_moveWay (wsV RX6 71 RX6 yX6_moveOneWay wsX6_moveOneWay) := goodIn_app (goodIn_of _ (by decide +kernel)) ggX6_moveWay_X6_moveOneWay
set_option maxRecDepth 20000 in
theorem ggX6_giveWay_X6_requireIndex : GoodIn wsX6_giveWay wsX6_requireIndex := goodIn_ca (goodIn_r _ [8, 9, 10] (by decide +kernel) (by decide +kernel)) (goodIn_sub (fun _ h => List.mem_cons_of_mem _ (List.mem_append_right _ h)) (by decide +kernel))
set_option maxRecDepth 20000 in
theorem gX6_giveWay_X6_requireIndex : GoodIn wsX6_giveWay (va_wsS RX6 75 yX6_requireIndex wsX6_requireIndex) := goodIn_app (goodIn_of _ (by decide +kernel)) ggX6_giveWay_X6_requireIndex
set_option maxRecDepth 20000 in
theorem ggX6_giveWay_X6_requireTenant : GoodIn wsX6_giveWay wsX6_requireTenant := goodIn_ca (goodIn_r _ [13, 5, 6, 7, 8, 9, 10] (by decide +kernel) (by decide +kernel)) (goodIn_sub (fun _ h => List.mem_cons_of_mem _ (List.mem_append_right _ h)) (by decide +kernel))
set_option maxRecDepth 20000 in
theorem gX6_giveWay_X6_requireTenant : GoodIn wsX6_giveWay (va_wsS RX6 45 yX6_requireTenant wsX6_requireTenant) := goodIn_app (goodIn_of _ (by decide +kernel)) ggX6_giveWay_X6_requireTenant
set_option maxRecDepth 20000 in
theorem ggX6_giveWay_X1_push : GoodIn wsX6_giveWay wsX1_push := goodIn_r _ [18, 19, 20, 21, 22, 23, 24, 25, 26, 27, 28, 29, 30, 31, 32, 33, 34, 35, 36, 37, 38, 39, 40, 41, 42, 43, 44, 45, 46, 47, 48, 49, 50, 51, 52, 53, 69, 70, 71, 60, 61, 62, 63, 64, 65, 66, 67, 68, 72, 73] (by decide +kernel) (by decide +kernel)
set_option maxRecDepth 20000 in
theorem gX6_giveWay_X1_push : GoodIn wsX6_giveWay (wsV RX6 53 RX1 yX1_push wsX1_push) := goodIn_app (goodIn_of _ (by decide +kernel)) ggX6_giveWay_X1_push
set_option maxRecDepth 20000 in
theorem ggX6_setLeast_X6_requireTenant : GoodIn wsX6_setLeast wsX6_requireTenant := goodIn_ca (goodIn_r _ [7, 8, 9, 6, 10, 11, 12] (by decide +kernel) (by decide +kernel)) (goodIn_sub (fun _ h => List.mem_cons_of_mem _ (List.mem_append_left _ (List.mem_append_right _ h))) (by decide +kernel))
set_option maxRecDepth 20000 in
theorem gX6_setLeast_X6_requireTenant : GoodIn wsX6_setLeast (va_wsS RX6 45 yX6_requireTenant wsX6_requireTenant) := goodIn_app (goodIn_of _ (by decide +kernel)) ggX6_setLeast_X6_requireTenant
set_option maxRecDepth 20000 in
theorem ggX6_setLeast_X6_requireArgument : GoodIn wsX6_setLeast wsX6_requireArgument := goodIn_ca (goodIn_r _ [15, 16, 17] (by decide +kernel) (by decide +kernel)) (goodIn_sub (fun _ h => List.mem_cons_of_mem _ (List.mem_append_right _ h)) (by decide +kernel))
set_option maxRecDepth 20000 in
theorem gX6_setLeast_X6_requireArgument : GoodIn wsX6_setLeast (va_wsS RX6 49 yX6_requireArgument wsX6_requireArgument) := goodIn_app (goodIn_of _ (by decide +kernel)) ggX6_setLeast_X6_requireArgument
set_option maxRecDepth 20000 in
theorem ggX6_setLeast_X1_push : GoodIn wsX6_setLeast wsX1_push := goodIn_r _ [22, 23, 24, 25, 26, 27, 28, 29, 30, 31, 32, 33, 34, 35, 36, 37, 38, 39, 40, 41, 42, 43, 44, 45, 46, 47, 48, 49, 50, 51, 52, 53, 54, 55, 56, 57, 70, 71, 72, 64, 65, 66, 67, 68, 69, 73, 74, 75, 76, 77] (by decide +kernel) (by decide +kernel)
set_option maxRecDepth 20000 in
theorem gX6_setLeast_X1_push : GoodIn wsX6_setLeast (wsV RX6 53 RX1 yX1_push wsX1_push) := goodIn_app (goodIn_of _ (by decide +kernel)) ggX6_setLeast_X1_push
set_option maxRecDepth 20000 in
theorem ggX6_setEpoch_X6_requireArgument : GoodIn wsX6_setEpoch wsX6_requireArgument := goodIn_ca (goodIn_r _ [7, 8, 9] (by decide +kernel) (by decide +kernel)) (goodIn_sub (fun _ h => List.mem_cons_of_mem _ (List.mem_append_right _ h)) (by decide +kernel))
set_option maxRecDepth 20000 in
theorem gX6_setEpoch_X6_requireArgument : GoodIn wsX6_setEpoch (va_wsS RX6 49 yX6_requireArgument wsX6_requireArgument) := goodIn_app (goodIn_of _ (by decide +kernel)) ggX6_setEpoch_X6_requireArgument
set_option maxRecDepth 20000 in
theorem ggX6_setEpoch_X1_push : GoodIn wsX6_setEpoch wsX1_push := goodIn_r _ [14, 15, 16, 17, 18, 19, 20, 21, 22, 23, 24, 25, 26, 27, 28, 29, 30, 31, 32, 33, 34, 35, 36, 37, 38, 39, 40, 41, 42, 43, 44, 45, 46, 47, 48, 49, 62, 63, 64, 56, 57, 58, 59, 60, 61, 65, 66, 67, 68, 69] (by decide +kernel) (by decide +kernel)
set_option maxRecDepth 20000 in
theorem gX6_setEpoch_X1_push : GoodIn wsX6_setEpoch (wsV RX6 53 RX1 yX1_push wsX1_push) := goodIn_app (goodIn_of _ (by decide +kernel)) ggX6_setEpoch_X1_push
set_option maxRecDepth 20000 in
theorem ggX6_halveGains_X1_push : GoodIn wsX6_halveGains wsX1_push := goodIn_r _ [8, 9, 10, 11, 12, 13, 14, 15, 16, 17, 18, 19, 20, 21, 22, 23, 24, 25, 26, 27, 28, 29, 30, 31, 32, 33, 34, 35, 36, 37, 38, 39, 40, 41, 42, 43, 64, 65, 66, 58, 59, 60, 61, 62, 63, 67, 68, 69, 70, 71] (by decide +kernel) (by decide +kernel)
set_option maxRecDepth 20000 in
theorem gX6_halveGains_X1_push : GoodIn wsX6_halveGains (wsV RX6 53 RX1 yX1_push wsX1_push) := goodIn_app (goodIn_of _ (by decide +kernel)) ggX6_halveGains_X1_push
set_option maxRecDepth 20000 in
theorem ggX6_halveGains_X2_halve : GoodIn wsX6_halveGains wsX2_halve := goodIn_r _ [47, 43, 70, 71] (by decide +kernel) (by decide +kernel)
set_option maxRecDepth 20000 in
theorem gX6_halveGains_X2_halve : GoodIn wsX6_halveGains (wsV RX6 94 RX2 yX2_halve wsX2_halve) := goodIn_app (goodIn_of _ (by decide +kernel)) ggX6_halveGains_X2_halve
set_option maxRecDepth 20000 in
theorem ggX6_halveGains_X2_sumOfGains : GoodIn wsX6_halveGains wsX2_sumOfGains := goodIn_r _ [51, 43, 70, 71] (by decide +kernel) (by decide +kernel)
set_option maxRecDepth 20000 in
theorem gX6_halveGains_X2_sumOfGains : GoodIn wsX6_halveGains (wsV RX6 99 RX2 yX2_sumOfGains wsX2_sumOfGains) := goodIn_app (goodIn_of _ (by decide +kernel)) ggX6_halveGains_X2_sumOfGains
set_option maxRecDepth 20000 in
theorem ggX6_appendText_X6_requireArgument : GoodIn wsX6_appendText wsX6_requireArgument := goodIn_ca (goodIn_r _ [8, 9, 10] (by decide +kernel) (by decide +kernel)) (goodIn_sub (fun _ h => List.mem_cons_of_mem _ (List.mem_append_right _ h)) (by decide +kernel))
set_option maxRecDepth 20000 in
theorem gX6_appendText_X6_requireArgument : GoodIn wsX6_appendText (va_wsS RX6 49 yX6_requireArgument wsX6_requireArgument) := goodIn_app (goodIn_of _ (by decide +kernel)) ggX6_appendText_X6_requireArgument
set_option maxRecDepth 20000 in
theorem ggX6_appendText_X0_append : GoodIn wsX6_appendText wsX0_append := goodIn_r _ [15, 16, 17, 24, 25] (by decide +kernel) (by decide +kernel)
set_option maxRecDepth 20000 in
theorem gX6_appendText_X0_append : GoodIn wsX6_appendText (wsV RX6 112 RX0 yX0_append wsX0_append) := goodIn_app (goodIn_of _ (by decide +kernel)) ggX6_appendText_X0_append
set_option maxRecDepth 20000 in
theorem ggX6_errorPosition_X0_firstError : GoodIn wsX6_errorPosition wsX0_firstError := goodIn_r _ [6, 7, 8, 9, 10, 5, 11, 12, 13, 14, 15, 16, 17, 18, 19, 20, 21, 22, 23, 24, 25, 26, 27, 34, 35] (by decide +kernel) (by decide +kernel)
set_option maxRecDepth 20000 in
theorem gX6_errorPosition_X0_firstError : GoodIn wsX6_errorPosition (wsV RX6 116 RX0 yX0_firstError wsX0_firstError) := goodIn_app (goodIn_of _ (by decide +kernel)) ggX6_errorPosition_X0_firstError
set_option maxRecDepth 20000 in
theorem ggX6_runText_X0_firstError : GoodIn wsX6_runText wsX0_firstError := goodIn_r _ [11, 12, 13, 14, 15, 10, 16, 17, 18, 19, 20, 21, 22, 23, 24, 25, 26, 27, 28, 29, 30, 31, 32, 186, 187] (by decide +kernel) (by decide +kernel)
set_option maxRecDepth 20000 in
theorem gX6_runText_X0_firstError : GoodIn wsX6_runText (wsV RX6 116 RX0 yX0_firstError wsX0_firstError) := goodIn_app (goodIn_of _ (by decide +kernel)) ggX6_runText_X0_firstError
set_option maxRecDepth 20000 in
theorem ggX6_runText_X1_push : GoodIn wsX6_runText wsX1_push := goodIn_r _ [37, 38, 39, 40, 41, 42, 43, 44, 45, 46, 47, 48, 49, 50, 51, 52, 53, 54, 55, 56, 57, 58, 59, 60, 61, 62, 63, 64, 65, 66, 67, 68, 69, 70, 71, 72, 188, 189, 190, 191, 192, 193, 194, 195, 196, 197, 198, 199, 200, 201] (by decide +kernel) (by decide +kernel)
set_option maxRecDepth 20000 in
theorem gX6_runText_X1_push : GoodIn wsX6_runText (wsV RX6 53 RX1 yX1_push wsX1_push) := goodIn_app (goodIn_of _ (by decide +kernel)) ggX6_runText_X1_push
set_option maxRecDepth 20000 in
theorem ggX6_runText_X0_commandBeginsAt : GoodIn wsX6_runText wsX0_commandBeginsAt := goodIn_r _ [76, 13, 14, 15, 10, 16, 12, 17, 186, 187] (by decide +kernel) (by decide +kernel)
set_option maxRecDepth 20000 in
theorem gX6_runText_X0_commandBeginsAt : GoodIn wsX6_runText (wsV RX6 121 RX0 yX0_commandBeginsAt wsX0_commandBeginsAt) := goodIn_app (goodIn_of _ (by decide +kernel)) ggX6_runText_X0_commandBeginsAt
set_option maxRecDepth 20000 in
theorem ggX6_runText_X6_runCommand : GoodIn wsX6_runText wsX6_runCommand := goodIn_r _ [81, 3, 5, 82, 83, 84, 14, 15, 10, 16, 12, 17, 85, 86, 87, 80, 88, 89, 90, 91, 92, 93, 94, 95, 96, 97, 98, 99, 100, 101, 102, 103, 104, 105, 106, 107, 108, 109, 110, 111, 112, 113, 114, 115, 59, 116, 61, 117, 118, 119, 120, 121, 122, 123, 124, 125, 126, 127, 128, 63, 129, 130, 131, 68, 132, 72, 133, 134, 135, 136, 137, 138, 139, 140, 13, 27, 28, 29, 141, 142, 143, 144, 145, 146, 147, 148, 149, 150, 151, 70, 152, 153, 154, 155, 156, 157, 158, 159, 160, 161, 162, 163, 164, 165, 166, 167, 168, 64, 169, 170, 171, 172, 173, 174, 175, 176, 177, 178, 179, 180, 181, 182, 183, 184, 185, 191, 192, 193, 194, 195, 196, 186, 187, 197, 198, 199, 202, 200, 201] (by decide +kernel) (by decide +kernel)
set_option maxRecDepth 20000 in
theorem gX6_runText_X6_runCommand : GoodIn wsX6_runText (wsV RX6 125 RX6 yX6_runCommand wsX6_runCommand) := goodIn_app (goodIn_of _ (by decide +kernel)) ggX6_runText_X6_runCommand
set_option maxRecDepth 20000 in
theorem ggX6_undo_X1_popInto : GoodIn wsX6_undo wsX1_popInto := goodIn_r _ [10, 11, 12, 13, 14, 15, 16, 17, 18, 19, 20, 21, 22, 23, 24, 25, 26, 27, 28, 29, 30, 31, 32, 33, 34, 35, 36, 37, 38, 39, 40, 41, 42, 43, 44, 45, 52, 53, 54, 55, 56, 57, 58, 59, 60, 61, 62, 63, 64, 65] (by decide +kernel) (by decide +kernel)
set_option maxRecDepth 20000 in
theorem gX6_undo_X1_popInto : GoodIn wsX6_undo (wsV RX6 133 RX1 yX1_popInto wsX1_popInto) := goodIn_app (goodIn_of _ (by decide +kernel)) ggX6_undo_X1_popInto
set_option maxRecDepth 20000 in
theorem ggX6_save_X6_requireIndex : GoodIn wsX6_save wsX6_requireIndex := goodIn_ca (goodIn_r _ [8, 9, 10] (by decide +kernel) (by decide +kernel)) (goodIn_sub (fun _ h => List.mem_cons_of_mem _ (List.mem_append_right _ h)) (by decide +kernel))
set_option maxRecDepth 20000 in
theorem gX6_save_X6_requireIndex : GoodIn wsX6_save (va_wsS RX6 75 yX6_requireIndex wsX6_requireIndex) := goodIn_app (goodIn_of _ (by decide +kernel)) ggX6_save_X6_requireIndex
set_option maxRecDepth 20000 in
theorem ggX6_save_X4_copyFrom : GoodIn wsX6_save wsX4_copyFrom := goodIn_r _ [15, 16, 17, 18, 19, 20, 21, 22, 23, 24, 25, 26, 27, 28, 29, 30, 31, 32, 33, 34, 35, 36, 37, 38, 39, 40, 41, 42, 65, 66, 67, 68, 69, 70, 71, 72, 73, 74, 75] (by decide +kernel) (by decide +kernel)
set_option maxRecDepth 20000 in
theorem gX6_save_X4_copyFrom : GoodIn wsX6_save (wsV RX6 136 RX4 yX4_copyFrom wsX4_copyFrom) := goodIn_app (goodIn_of _ (by decide +kernel)) ggX6_save_X4_copyFrom
set_option maxRecDepth 20000 in
theorem ggX6_save_X3_allLines : GoodIn wsX6_save wsX3_allLines := goodIn_r _ [46, 47, 48, 49, 29, 50, 51, 52, 53, 54, 55, 56, 57, 58, 33, 71, 72, 73] (by decide +kernel) (by decide +kernel)
set_option maxRecDepth 20000 in
theorem gX6_save_X3_allLines : GoodIn wsX6_save (wsV RX6 139 RX3 yX3_allLines wsX3_allLines) := goodIn_app (goodIn_of _ (by decide +kernel)) ggX6_save_X3_allLines
set_option maxRecDepth 20000 in
theorem ggX6_restore_X6_requireIndex : GoodIn wsX6_restore wsX6_requireIndex := goodIn_ca (goodIn_r _ [11, 12, 13] (by decide +kernel) (by decide +kernel)) (goodIn_sub (fun _ h => List.mem_cons_of_mem _ (List.mem_append_right _ h)) (by decide +kernel))
set_option maxRecDepth 20000 in
theorem gX6_restore_X6_requireIndex : GoodIn wsX6_restore (va_wsS RX6 75 yX6_requireIndex wsX6_requireIndex) := goodIn_app (goodIn_of _ (by decide +kernel)) ggX6_restore_X6_requireIndex
set_option maxRecDepth 20000 in
theorem ggX6_restore_X1_push : GoodIn wsX6_restore wsX1_push := goodIn_r _ [18, 19, 20, 21, 22, 23, 24, 25, 26, 27, 28, 29, 30, 31, 32, 33, 34, 35, 36, 37, 38, 39, 40, 41, 42, 43, 44, 45, 46, 47, 48, 49, 50, 51, 52, 53, 83, 84, 85, 77, 78, 79, 80, 81, 82, 86, 87, 88, 89, 90] (by decide +kernel) (by decide +kernel)
set_option maxRecDepth 20000 in
theorem gX6_restore_X1_push : GoodIn wsX6_restore (wsV RX6 53 RX1 yX1_push wsX1_push) := goodIn_app (goodIn_of _ (by decide +kernel)) ggX6_restore_X1_push
set_option maxRecDepth 20000 in
theorem ggX6_restore_X4_copyFrom : GoodIn wsX6_restore wsX4_copyFrom := goodIn_r _ [26, 27, 28, 29, 30, 31, 32, 33, 34, 35, 36, 37, 38, 39, 40, 41, 42, 43, 44, 45, 46, 47, 48, 49, 50, 51, 52, 53, 77, 78, 79, 80, 81, 82, 86, 87, 88, 89, 90] (by decide +kernel) (by decide +kernel)
set_option maxRecDepth 20000 in
theorem gX6_restore_X4_copyFrom : GoodIn wsX6_restore (wsV RX6 136 RX4 yX4_copyFrom wsX4_copyFrom) := goodIn_app (goodIn_of _ (by decide +kernel)) ggX6_restore_X4_copyFrom
set_option maxRecDepth 20000 in
theorem ggX6_restore_X3_allLines : GoodIn wsX6_restore wsX3_allLines := goodIn_r _ [58, 59, 60, 61, 40, 62, 63, 64, 65, 66, 67, 68, 69, 70, 44, 86, 87, 88] (by decide +kernel) (by decide +kernel)
set_option maxRecDepth 20000 in
theorem gX6_restore_X3_allLines : GoodIn wsX6_restore (wsV RX6 139 RX3 yX3_allLines wsX3_allLines) := goodIn_app (goodIn_of _ (by decide +kernel)) ggX6_restore_X3_allLines
set_option maxRecDepth 20000 in
theorem ggX6_owner_X6_requireIndex : GoodIn wsX6_owner wsX6_requireIndex := goodIn_ca (goodIn_r _ [7, 8, 9] (by decide +kernel) (by decide +kernel)) (goodIn_sub (fun _ h => List.mem_cons_of_mem _ (List.mem_append_right _ h)) (by decide +kernel))
set_option maxRecDepth 20000 in
theorem gX6_owner_X6_requireIndex : GoodIn wsX6_owner (va_wsS RX6 75 yX6_requireIndex wsX6_requireIndex) := goodIn_app (goodIn_of _ (by decide +kernel)) ggX6_owner_X6_requireIndex
set_option maxRecDepth 20000 in
theorem ggX6_waysOf_X6_requireTenant : GoodIn wsX6_waysOf wsX6_requireTenant := goodIn_ca (goodIn_r _ [6, 7, 8, 5, 9, 10, 11] (by decide +kernel) (by decide +kernel)) (goodIn_sub (fun _ h => List.mem_cons_of_mem _ (List.mem_append_right _ h)) (by decide +kernel))
set_option maxRecDepth 20000 in
theorem gX6_waysOf_X6_requireTenant : GoodIn wsX6_waysOf (va_wsS RX6 45 yX6_requireTenant wsX6_requireTenant) := goodIn_app (goodIn_of _ (by decide +kernel)) ggX6_waysOf_X6_requireTenant
set_option maxRecDepth 20000 in
theorem ggX6_waysOf_X3_ownedWays : GoodIn wsX6_waysOf wsX3_ownedWays := goodIn_r _ [16, 17, 30, 31, 32] (by decide +kernel) (by decide +kernel)
set_option maxRecDepth 20000 in
theorem gX6_waysOf_X3_ownedWays : GoodIn wsX6_waysOf (wsV RX6 144 RX3 yX3_ownedWays wsX3_ownedWays) := goodIn_app (goodIn_of _ (by decide +kernel)) ggX6_waysOf_X3_ownedWays
set_option maxRecDepth 20000 in
theorem ggX6_line_X6_requireIndex : GoodIn wsX6_line wsX6_requireIndex := goodIn_ca (goodIn_r _ [7, 8, 9] (by decide +kernel) (by decide +kernel)) (goodIn_sub (fun _ h => List.mem_cons_of_mem _ (List.mem_append_right _ h)) (by decide +kernel))
set_option maxRecDepth 20000 in
theorem gX6_line_X6_requireIndex : GoodIn wsX6_line (va_wsS RX6 75 yX6_requireIndex wsX6_requireIndex) := goodIn_app (goodIn_of _ (by decide +kernel)) ggX6_line_X6_requireIndex
set_option maxRecDepth 20000 in
theorem ggX6_lines_X6_requireTenant : GoodIn wsX6_lines wsX6_requireTenant := goodIn_ca (goodIn_r _ [6, 7, 8, 5, 9, 10, 11] (by decide +kernel) (by decide +kernel)) (goodIn_sub (fun _ h => List.mem_cons_of_mem _ (List.mem_append_right _ h)) (by decide +kernel))
set_option maxRecDepth 20000 in
theorem gX6_lines_X6_requireTenant : GoodIn wsX6_lines (va_wsS RX6 45 yX6_requireTenant wsX6_requireTenant) := goodIn_app (goodIn_of _ (by decide +kernel)) ggX6_lines_X6_requireTenant
set_option maxRecDepth 20000 in
theorem ggX6_lines_X3_linesInOwnWays : GoodIn wsX6_lines wsX3_linesInOwnWays := goodIn_r _ [16, 17, 18, 19, 20, 15, 21, 22, 23, 24, 25, 26, 43, 44, 45] (by decide +kernel) (by decide +kernel)
set_option maxRecDepth 20000 in
theorem gX6_lines_X3_linesInOwnWays : GoodIn wsX6_lines (wsV RX6 150 RX3 yX3_linesInOwnWays wsX3_linesInOwnWays) := goodIn_app (goodIn_of _ (by decide +kernel)) ggX6_lines_X3_linesInOwnWays
set_option maxRecDepth 20000 in
theorem ggX6_lines_X3_linesOf : GoodIn wsX6_lines wsX3_linesOf := goodIn_r _ [30, 18, 19, 20, 15, 21, 22, 23, 24, 25, 26, 43, 44, 45] (by decide +kernel) (by decide +kernel)
set_option maxRecDepth 20000 in
theorem gX6_lines_X3_linesOf : GoodIn wsX6_lines (wsV RX6 153 RX3 yX3_linesOf wsX3_linesOf) := goodIn_app (goodIn_of _ (by decide +kernel)) ggX6_lines_X3_linesOf
set_option maxRecDepth 20000 in
theorem ggX6_ifAccessed_X6_requireTenant : GoodIn wsX6_ifAccessed wsX6_requireTenant := goodIn_ca (goodIn_r _ [6, 7, 8, 5, 9, 10, 11] (by decide +kernel) (by decide +kernel)) (goodIn_sub (fun _ h => List.mem_cons_of_mem _ (List.mem_append_left _ (List.mem_append_right _ h))) (by decide +kernel))
set_option maxRecDepth 20000 in
theorem gX6_ifAccessed_X6_requireTenant : GoodIn wsX6_ifAccessed (va_wsS RX6 45 yX6_requireTenant wsX6_requireTenant) := goodIn_app (goodIn_of _ (by decide +kernel)) ggX6_ifAccessed_X6_requireTenant
set_option maxRecDepth 20000 in
theorem ggX6_ifAccessed_X6_requireArgument : GoodIn wsX6_ifAccessed wsX6_requireArgument := goodIn_ca (goodIn_r _ [14, 15, 16] (by decide +kernel) (by decide +kernel)) (goodIn_sub (fun _ h => List.mem_cons_of_mem _ (List.mem_append_right _ h)) (by decide +kernel))
set_option maxRecDepth 20000 in
theorem gX6_ifAccessed_X6_requireArgument : GoodIn wsX6_ifAccessed (va_wsS RX6 49 yX6_requireArgument wsX6_requireArgument) := goodIn_app (goodIn_of _ (by decide +kernel)) ggX6_ifAccessed_X6_requireArgument
set_option maxRecDepth 20000 in
theorem ggX6_ifAccessed_X3_resultOf : GoodIn wsX6_ifAccessed wsX3_resultOf := goodIn_r _ [21, 22, 23, 24, 20, 25, 26, 27, 28, 29, 30, 31, 44, 45, 46] (by decide +kernel) (by decide +kernel)
set_option maxRecDepth 20000 in
theorem gX6_ifAccessed_X3_resultOf : GoodIn wsX6_ifAccessed (wsV RX6 156 RX3 yX3_resultOf wsX3_resultOf) := goodIn_app (goodIn_of _ (by decide +kernel)) ggX6_ifAccessed_X3_resultOf
set_option maxRecDepth 20000 in
theorem ggX6_victim_X6_requireTenant : GoodIn wsX6_victim wsX6_requireTenant := goodIn_ca (goodIn_r _ [7, 8, 9, 6, 10, 11, 12] (by decide +kernel) (by decide +kernel)) (goodIn_sub (fun _ h => List.mem_cons_of_mem _ (List.mem_append_left _ (List.mem_append_right _ h))) (by decide +kernel))
set_option maxRecDepth 20000 in
theorem gX6_victim_X6_requireTenant : GoodIn wsX6_victim (va_wsS RX6 45 yX6_requireTenant wsX6_requireTenant) := goodIn_app (goodIn_of _ (by decide +kernel)) ggX6_victim_X6_requireTenant
set_option maxRecDepth 20000 in
theorem ggX6_victim_X6_requireArgument : GoodIn wsX6_victim wsX6_requireArgument := goodIn_ca (goodIn_r _ [15, 16, 17] (by decide +kernel) (by decide +kernel)) (goodIn_sub (fun _ h => List.mem_cons_of_mem _ (List.mem_append_right _ h)) (by decide +kernel))
set_option maxRecDepth 20000 in
theorem gX6_victim_X6_requireArgument : GoodIn wsX6_victim (va_wsS RX6 49 yX6_requireArgument wsX6_requireArgument) := goodIn_app (goodIn_of _ (by decide +kernel)) ggX6_victim_X6_requireArgument
set_option maxRecDepth 20000 in
theorem ggX6_victim_X3_resultOf : GoodIn wsX6_victim wsX3_resultOf := goodIn_r _ [22, 23, 24, 25, 21, 26, 27, 28, 29, 30, 31, 32, 50, 51, 52] (by decide +kernel) (by decide +kernel)
set_option maxRecDepth 20000 in
theorem gX6_victim_X3_resultOf : GoodIn wsX6_victim (wsV RX6 156 RX3 yX3_resultOf wsX3_resultOf) := goodIn_app (goodIn_of _ (by decide +kernel)) ggX6_victim_X3_resultOf
set_option maxRecDepth 20000 in
theorem ggX6_victim_X3_placeToFill : GoodIn wsX6_victim wsX3_placeToFill := goodIn_r _ [36, 32, 27, 37, 50, 51, 52] (by decide +kernel) (by decide +kernel)
set_option maxRecDepth 20000 in
theorem gX6_victim_X3_placeToFill : GoodIn wsX6_victim (wsV RX6 159 RX3 yX3_placeToFill wsX3_placeToFill) := goodIn_app (goodIn_of _ (by decide +kernel)) ggX6_victim_X3_placeToFill
set_option maxRecDepth 20000 in
theorem ggX6_gain_X6_requireTenant : GoodIn wsX6_gain wsX6_requireTenant := goodIn_ca (goodIn_r _ [7, 8, 9, 6, 10, 11, 12] (by decide +kernel) (by decide +kernel)) (goodIn_sub (fun _ h => List.mem_cons_of_mem _ (List.mem_append_right _ h)) (by decide +kernel))
set_option maxRecDepth 20000 in
theorem gX6_gain_X6_requireTenant : GoodIn wsX6_gain (va_wsS RX6 45 yX6_requireTenant wsX6_requireTenant) := goodIn_app (goodIn_of _ (by decide +kernel)) ggX6_gain_X6_requireTenant
set_option maxRecDepth 20000 in
theorem ggX6_gain_X6_requireIndex : GoodIn wsX6_gain wsX6_requireIndex := goodIn_ca (goodIn_r _ [10, 11, 12] (by decide +kernel) (by decide +kernel)) (goodIn_sub (fun _ h => List.mem_cons_of_mem _ (List.mem_append_right _ h)) (by decide +kernel))
set_option maxRecDepth 20000 in
theorem gX6_gain_X6_requireIndex : GoodIn wsX6_gain (va_wsS RX6 75 yX6_requireIndex wsX6_requireIndex) := goodIn_app (goodIn_of _ (by decide +kernel)) ggX6_gain_X6_requireIndex
set_option maxRecDepth 20000 in
theorem ggX6_utility_X6_requireTenant : GoodIn wsX6_utility wsX6_requireTenant := goodIn_ca (goodIn_r _ [6, 7, 8, 5, 9, 10, 11] (by decide +kernel) (by decide +kernel)) (goodIn_sub (fun _ h => List.mem_cons_of_mem _ (List.mem_append_left _ (List.mem_append_right _ h))) (by decide +kernel))
set_option maxRecDepth 20000 in
theorem gX6_utility_X6_requireTenant : GoodIn wsX6_utility (va_wsS RX6 45 yX6_requireTenant wsX6_requireTenant) := goodIn_app (goodIn_of _ (by decide +kernel)) ggX6_utility_X6_requireTenant
set_option maxRecDepth 20000 in
theorem ggX6_utility_X6_requireArgument : GoodIn wsX6_utility wsX6_requireArgument := goodIn_ca (goodIn_r _ [14, 15, 16] (by decide +kernel) (by decide +kernel)) (goodIn_sub (fun _ h => List.mem_cons_of_mem _ (List.mem_append_right _ h)) (by decide +kernel))
set_option maxRecDepth 20000 in
theorem gX6_utility_X6_requireArgument : GoodIn wsX6_utility (va_wsS RX6 49 yX6_requireArgument wsX6_requireArgument) := goodIn_app (goodIn_of _ (by decide +kernel)) ggX6_utility_X6_requireArgument
set_option maxRecDepth 20000 in
theorem ggX6_utility_X2_utilityOf : GoodIn wsX6_utility wsX2_utilityOf := goodIn_r _ [21, 22, 35, 36] (by decide +kernel) (by decide +kernel)
set_option maxRecDepth 20000 in
theorem gX6_utility_X2_utilityOf : GoodIn wsX6_utility (wsV RX6 165 RX2 yX2_utilityOf wsX2_utilityOf) := goodIn_app (goodIn_of _ (by decide +kernel)) ggX6_utility_X2_utilityOf
set_option maxRecDepth 20000 in
theorem ggX6_monitored_X6_requireTenant : GoodIn wsX6_monitored wsX6_requireTenant := goodIn_ca (goodIn_r _ [9, 10, 11, 8, 12, 1, 2] (by decide +kernel) (by decide +kernel)) (goodIn_sub (fun _ h => List.mem_cons_of_mem _ (List.mem_append_right _ h)) (by decide +kernel))
set_option maxRecDepth 20000 in
theorem gX6_monitored_X6_requireTenant : GoodIn wsX6_monitored (va_wsS RX6 45 yX6_requireTenant wsX6_requireTenant) := goodIn_app (goodIn_of _ (by decide +kernel)) ggX6_monitored_X6_requireTenant
set_option maxRecDepth 20000 in
theorem ggX6_monitored_X6_isSampled : GoodIn wsX6_monitored wsX6_isSampled := goodIn_r _ [15] (by decide +kernel) (by decide +kernel)
set_option maxRecDepth 20000 in
theorem gX6_monitored_X6_isSampled : GoodIn wsX6_monitored (va_wsS RX6 168 yX6_isSampled wsX6_isSampled) := goodIn_app (goodIn_of _ (by decide +kernel)) ggX6_monitored_X6_isSampled
set_option maxRecDepth 20000 in
theorem ggX6_monitored_X6_requireIndex : GoodIn wsX6_monitored wsX6_requireIndex := goodIn_ca (goodIn_r _ [12, 1, 2] (by decide +kernel) (by decide +kernel)) (goodIn_sub (fun _ h => List.mem_cons_of_mem _ (List.mem_append_right _ h)) (by decide +kernel))
set_option maxRecDepth 20000 in
theorem gX6_monitored_X6_requireIndex : GoodIn wsX6_monitored (va_wsS RX6 75 yX6_requireIndex wsX6_requireIndex) := goodIn_app (goodIn_of _ (by decide +kernel)) ggX6_monitored_X6_requireIndex
set_option maxRecDepth 20000 in
theorem ggX6_monitored_X6_listStart : GoodIn wsX6_monitored wsX6_listStart := goodIn_r _ [18] (by decide +kernel) (by decide +kernel)
set_option maxRecDepth 20000 in
theorem gX6_monitored_X6_listStart : GoodIn wsX6_monitored (va_wsS RX6 179 yX6_listStart wsX6_listStart) := goodIn_app (goodIn_of _ (by decide +kernel)) ggX6_monitored_X6_listStart
set_option maxRecDepth 20000 in
theorem ggX6_target_X6_requireTenant : GoodIn wsX6_target wsX6_requireTenant := goodIn_ca (goodIn_r _ [7, 8, 9, 6, 10, 11, 12] (by decide +kernel) (by decide +kernel)) (goodIn_sub (fun _ h => List.mem_cons_of_mem _ (List.mem_append_right _ h)) (by decide +kernel))
set_option maxRecDepth 20000 in
theorem gX6_target_X6_requireTenant : GoodIn wsX6_target (va_wsS RX6 45 yX6_requireTenant wsX6_requireTenant) := goodIn_app (goodIn_of _ (by decide +kernel)) ggX6_target_X6_requireTenant
set_option maxRecDepth 20000 in
theorem ggX6_target_X5_compute : GoodIn wsX6_target wsX5_compute := goodIn_r _ [17, 18, 19, 20, 21, 22, 23, 16, 24, 25, 26, 27, 28, 29, 36, 37, 38, 39, 40, 41, 42, 43, 44] (by decide +kernel) (by decide +kernel)
set_option maxRecDepth 20000 in
theorem gX6_target_X5_compute : GoodIn wsX6_target (wsV RX6 182 RX5 yX5_compute wsX5_compute) := goodIn_app (goodIn_of _ (by decide +kernel)) ggX6_target_X5_compute
set_option maxRecDepth 20000 in
theorem ggX6_movesLeft_X5_compute : GoodIn wsX6_movesLeft wsX5_compute := goodIn_r _ [11, 12, 13, 14, 15, 16, 17, 10, 18, 19, 20, 21, 22, 23, 43, 44, 45, 46, 47, 48, 49, 50, 51] (by decide +kernel) (by decide +kernel)
set_option maxRecDepth 20000 in
theorem gX6_movesLeft_X5_compute : GoodIn wsX6_movesLeft (wsV RX6 182 RX5 yX5_compute wsX5_compute) := goodIn_app (goodIn_of _ (by decide +kernel)) ggX6_movesLeft_X5_compute
set_option maxRecDepth 20000 in
theorem ggX6_movesLeft_X6_deficitOf : GoodIn wsX6_movesLeft wsX6_deficitOf := goodIn_r _ [28, 1, 29, 2, 30, 31, 32, 33, 34, 35, 36, 37, 38, 39, 40, 41, 42, 43, 44, 45, 46, 47, 48, 49, 52, 53, 54] (by decide +kernel) (by decide +kernel)
set_option maxRecDepth 20000 in
theorem gX6_movesLeft_X6_deficitOf : GoodIn wsX6_movesLeft (wsV RX6 188 RX6 yX6_deficitOf wsX6_deficitOf) := goodIn_app (goodIn_of _ (by decide +kernel)) ggX6_movesLeft_X6_deficitOf
set_option maxRecDepth 20000 in
theorem ggX6_totalUtility_X3_ownedWays : GoodIn wsX6_totalUtility wsX3_ownedWays := goodIn_r _ [8, 9, 28, 29, 30] (by decide +kernel) (by decide +kernel)
set_option maxRecDepth 20000 in
theorem gX6_totalUtility_X3_ownedWays : GoodIn wsX6_totalUtility (wsV RX6 144 RX3 yX3_ownedWays wsX3_ownedWays) := goodIn_app (goodIn_of _ (by decide +kernel)) ggX6_totalUtility_X3_ownedWays
set_option maxRecDepth 20000 in
theorem ggX6_totalUtility_X2_utilityOf : GoodIn wsX6_totalUtility wsX2_utilityOf := goodIn_r _ [14, 15, 31, 32] (by decide +kernel) (by decide +kernel)
set_option maxRecDepth 20000 in
theorem gX6_totalUtility_X2_utilityOf : GoodIn wsX6_totalUtility (wsV RX6 165 RX2 yX2_utilityOf wsX2_utilityOf) := goodIn_app (goodIn_of _ (by decide +kernel)) ggX6_totalUtility_X2_utilityOf
set_option maxRecDepth 20000 in
theorem ggX6_count_X6_requireTenant : GoodIn wsX6_count wsX6_requireTenant := goodIn_ca (goodIn_r _ [6, 7, 8, 5, 9, 10, 11] (by decide +kernel) (by decide +kernel)) (goodIn_sub (fun _ h => List.mem_cons_of_mem _ (List.mem_append_left _ (List.mem_append_right _ h))) (by decide +kernel))
set_option maxRecDepth 20000 in
theorem gX6_count_X6_requireTenant : GoodIn wsX6_count (va_wsS RX6 45 yX6_requireTenant wsX6_requireTenant) := goodIn_app (goodIn_of _ (by decide +kernel)) ggX6_count_X6_requireTenant
set_option maxRecDepth 20000 in
theorem ggX6_count_X6_requireArgument : GoodIn wsX6_count wsX6_requireArgument := goodIn_ca (goodIn_r _ [14, 15, 16] (by decide +kernel) (by decide +kernel)) (goodIn_sub (fun _ h => List.mem_cons_of_mem _ (List.mem_append_right _ h)) (by decide +kernel))
set_option maxRecDepth 20000 in
theorem gX6_count_X6_requireArgument : GoodIn wsX6_count (va_wsS RX6 49 yX6_requireArgument wsX6_requireArgument) := goodIn_app (goodIn_of _ (by decide +kernel)) ggX6_count_X6_requireArgument
set_option maxRecDepth 20000 in
theorem ggX6_hitRate_X6_requireTenant : GoodIn wsX6_hitRate wsX6_requireTenant := goodIn_ca (goodIn_r _ [6, 7, 8, 5, 9, 10, 11] (by decide +kernel) (by decide +kernel)) (goodIn_sub (fun _ h => List.mem_cons_of_mem _ (List.mem_append_right _ h)) (by decide +kernel))
set_option maxRecDepth 20000 in
theorem gX6_hitRate_X6_requireTenant : GoodIn wsX6_hitRate (va_wsS RX6 45 yX6_requireTenant wsX6_requireTenant) := goodIn_app (goodIn_of _ (by decide +kernel)) ggX6_hitRate_X6_requireTenant
set_option maxRecDepth 20000 in
theorem ggX6_requireTenant_X6_requireIndex : GoodIn wsX6_requireTenant wsX6_requireIndex := goodIn_ca (goodIn_r _ [4, 5, 6] (by decide +kernel) (by decide +kernel)) (goodIn_sub (fun _ h => List.mem_cons_of_mem _ (List.mem_append_right _ h)) (by decide +kernel))
set_option maxRecDepth 20000 in
theorem gX6_requireTenant_X6_requireIndex : GoodIn wsX6_requireTenant (va_wsS RX6 75 yX6_requireIndex wsX6_requireIndex) := goodIn_app (goodIn_of _ (by decide +kernel)) ggX6_requireTenant_X6_requireIndex
set_option maxRecDepth 20000 in
theorem ggX6_makeAccess_X2_note : GoodIn wsX6_makeAccess wsX2_note := goodIn_r _ [11, 12, 13, 14, 15, 16, 17, 18, 107, 108] (by decide +kernel) (by decide +kernel)
set_option maxRecDepth 20000 in
theorem gX6_makeAccess_X2_note : GoodIn wsX6_makeAccess (wsV RX6 209 RX2 yX2_note wsX2_note) := goodIn_app (goodIn_of _ (by decide +kernel)) ggX6_makeAccess_X2_note
set_option maxRecDepth 20000 in
theorem ggX6_makeAccess_X3_resultOf : GoodIn wsX6_makeAccess wsX3_resultOf := goodIn_r _ [23, 24, 25, 26, 22, 27, 28, 29, 30, 31, 32, 33, 109, 110, 111] (by decide +kernel) (by decide +kernel)
set_option maxRecDepth 20000 in
theorem gX6_makeAccess_X3_resultOf : GoodIn wsX6_makeAccess (wsV RX6 156 RX3 yX3_resultOf wsX3_resultOf) := goodIn_app (goodIn_of _ (by decide +kernel)) ggX6_makeAccess_X3_resultOf
set_option maxRecDepth 20000 in
theorem ggX6_makeAccess_X3_renew : GoodIn wsX6_makeAccess wsX3_renew := goodIn_r _ [37, 38, 24, 25, 26, 22, 27, 28, 109, 110, 111] (by decide +kernel) (by decide +kernel)
set_option maxRecDepth 20000 in
theorem gX6_makeAccess_X3_renew : GoodIn wsX6_makeAccess (wsV RX6 212 RX3 yX3_renew wsX3_renew) := goodIn_app (goodIn_of _ (by decide +kernel)) ggX6_makeAccess_X3_renew
set_option maxRecDepth 20000 in
theorem ggX6_makeAccess_X6_bringIn : GoodIn wsX6_makeAccess wsX6_bringIn := goodIn_r _ [42, 1, 4, 5, 43, 44, 3, 45, 46, 47, 22, 48, 33, 28, 38, 49, 50, 51, 52, 95, 96, 97, 98, 99, 100, 101, 102, 103, 104, 105, 106, 109, 110, 111] (by decide +kernel) (by decide +kernel)
set_option maxRecDepth 20000 in
theorem gX6_makeAccess_X6_bringIn : GoodIn wsX6_makeAccess (wsV RX6 215 RX6 yX6_bringIn wsX6_bringIn) := goodIn_app (goodIn_of _ (by decide +kernel)) ggX6_makeAccess_X6_bringIn
set_option maxRecDepth 20000 in
theorem ggX6_makeAccess_X6_moveOneWay : GoodIn wsX6_makeAccess wsX6_moveOneWay := goodIn_r _ [56, 57, 1, 4, 58, 59, 60, 61, 62, 63, 64, 65, 66, 67, 68, 69, 70, 71, 72, 73, 74, 75, 76, 77, 78, 15, 79, 80, 81, 30, 31, 22, 32, 33, 82, 83, 84, 85, 86, 87, 88, 89, 90, 50, 51, 52, 28, 95, 96, 97, 98, 99, 100, 101, 102, 103, 104, 105, 106, 109, 110, 111, 112, 107, 108] (by decide +kernel) (by decide +kernel)
set_option maxRecDepth 20000 in
theorem gX6_makeAccess_X6_moveOneWay : GoodIn wsX6_makeAccess (wsV RX6 71 RX6 yX6_moveOneWay wsX6_moveOneWay) := goodIn_app (goodIn_of _ (by decide +kernel)) ggX6_makeAccess_X6_moveOneWay
set_option maxRecDepth 20000 in
theorem ggX6_makeAccess_X2_halve : GoodIn wsX6_makeAccess wsX2_halve := goodIn_r _ [94, 13, 107, 108] (by decide +kernel) (by decide +kernel)
set_option maxRecDepth 20000 in
theorem gX6_makeAccess_X2_halve : GoodIn wsX6_makeAccess (wsV RX6 94 RX2 yX2_halve wsX2_halve) := goodIn_app (goodIn_of _ (by decide +kernel)) ggX6_makeAccess_X2_halve
set_option maxRecDepth 20000 in
theorem ggX6_bringIn_X3_placeToFill : GoodIn wsX6_bringIn wsX3_placeToFill := goodIn_r _ [11, 12, 13, 14, 31, 32, 33] (by decide +kernel) (by decide +kernel)
set_option maxRecDepth 20000 in
theorem gX6_bringIn_X3_placeToFill : GoodIn wsX6_bringIn (wsV RX6 159 RX3 yX3_placeToFill wsX3_placeToFill) := goodIn_app (goodIn_of _ (by decide +kernel)) ggX6_bringIn_X3_placeToFill
set_option maxRecDepth 20000 in
theorem ggX6_bringIn_X3_holdsLineOf : GoodIn wsX6_bringIn wsX3_holdsLineOf := goodIn_r _ [18, 13, 31, 32, 33] (by decide +kernel) (by decide +kernel)
set_option maxRecDepth 20000 in
theorem gX6_bringIn_X3_holdsLineOf : GoodIn wsX6_bringIn (wsV RX6 218 RX3 yX3_holdsLineOf wsX3_holdsLineOf) := goodIn_app (goodIn_of _ (by decide +kernel)) ggX6_bringIn_X3_holdsLineOf
set_option maxRecDepth 20000 in
theorem ggX6_moveOneWay_X5_compute : GoodIn wsX6_moveOneWay wsX5_compute := goodIn_r _ [9, 10, 11, 12, 13, 14, 15, 8, 16, 17, 18, 19, 20, 21, 62, 53, 54, 55, 56, 57, 58, 63, 64] (by decide +kernel) (by decide +kernel)
set_option maxRecDepth 20000 in
theorem gX6_moveOneWay_X5_compute : GoodIn wsX6_moveOneWay (wsV RX6 182 RX5 yX5_compute wsX5_compute) := goodIn_app (goodIn_of _ (by decide +kernel)) ggX6_moveOneWay_X5_compute
set_option maxRecDepth 20000 in
theorem ggX6_moveOneWay_X6_deficitOf : GoodIn wsX6_moveOneWay wsX6_deficitOf := goodIn_r _ [26, 1, 27, 2, 3, 28, 29, 30, 31, 32, 33, 47, 48, 49, 50, 51, 52, 62, 53, 54, 55, 56, 57, 58, 59, 60, 61] (by decide +kernel) (by decide +kernel)
set_option maxRecDepth 20000 in
theorem gX6_moveOneWay_X6_deficitOf : GoodIn wsX6_moveOneWay (wsV RX6 188 RX6 yX6_deficitOf wsX6_deficitOf) := goodIn_app (goodIn_of _ (by decide +kernel)) ggX6_moveOneWay_X6_deficitOf
set_option maxRecDepth 20000 in
theorem ggX6_moveOneWay_X3_wayWithFewestLines : GoodIn wsX6_moveOneWay wsX3_wayWithFewestLines := goodIn_r _ [37, 33, 38, 39, 40, 31, 41, 42, 43, 44, 45, 46, 59, 60, 61] (by decide +kernel) (by decide +kernel)
set_option maxRecDepth 20000 in
theorem gX6_moveOneWay_X3_wayWithFewestLines : GoodIn wsX6_moveOneWay (wsV RX6 225 RX3 yX3_wayWithFewestLines wsX3_wayWithFewestLines) := goodIn_app (goodIn_of _ (by decide +kernel)) ggX6_moveOneWay_X3_wayWithFewestLines
set_option maxRecDepth 20000 in
theorem ggX6_deficitOf_X3_ownedWays : GoodIn wsX6_deficitOf wsX3_ownedWays := goodIn_r _ [9, 10, 24, 25, 26] (by decide +kernel) (by decide +kernel)
set_option maxRecDepth 20000 in
theorem gX6_deficitOf_X3_ownedWays : GoodIn wsX6_deficitOf (wsV RX6 144 RX3 yX3_ownedWays wsX3_ownedWays) := goodIn_app (goodIn_of _ (by decide +kernel)) ggX6_deficitOf_X3_ownedWays
set_option maxRecDepth 20000 in
theorem ggX6_runCommand_X0_signAt : GoodIn wsX6_runCommand wsX0_signAt := goodIn_r _ [9, 10, 11, 131, 132] (by decide +kernel) (by decide +kernel)
set_option maxRecDepth 20000 in
theorem gX6_runCommand_X0_signAt : GoodIn wsX6_runCommand (wsV RX6 228 RX0 yX0_signAt wsX0_signAt) := goodIn_app (goodIn_of _ (by decide +kernel)) ggX6_runCommand_X0_signAt
set_option maxRecDepth 20000 in
theorem ggX6_runCommand_X6_moveOneWay : GoodIn wsX6_runCommand wsX6_moveOneWay := goodIn_r _ [16, 17, 2, 4, 18, 19, 20, 21, 22, 23, 24, 25, 26, 27, 28, 29, 30, 31, 32, 33, 34, 35, 36, 37, 38, 15, 39, 40, 41, 42, 43, 44, 45, 46, 47, 48, 49, 50, 51, 52, 53, 54, 55, 56, 57, 58, 59, 119, 120, 121, 122, 123, 124, 125, 126, 127, 128, 129, 130, 133, 134, 135, 136, 137, 138] (by decide +kernel) (by decide +kernel)
set_option maxRecDepth 20000 in
theorem gX6_runCommand_X6_moveOneWay : GoodIn wsX6_runCommand (wsV RX6 71 RX6 yX6_moveOneWay wsX6_moveOneWay) := goodIn_app (goodIn_of _ (by decide +kernel)) ggX6_runCommand_X6_moveOneWay
set_option maxRecDepth 20000 in
theorem ggX6_runCommand_X2_halve : GoodIn wsX6_runCommand wsX2_halve := goodIn_r _ [64, 65, 137, 138] (by decide +kernel) (by decide +kernel)
set_option maxRecDepth 20000 in
theorem gX6_runCommand_X2_halve : GoodIn wsX6_runCommand (wsV RX6 94 RX2 yX2_halve wsX2_halve) := goodIn_app (goodIn_of _ (by decide +kernel)) ggX6_runCommand_X2_halve
set_option maxRecDepth 20000 in
theorem ggX6_runCommand_X3_removeLinesOf : GoodIn wsX6_runCommand wsX3_removeLinesOf := goodIn_r _ [69, 59, 55, 56, 57, 44, 58, 133, 134, 135] (by decide +kernel) (by decide +kernel)
set_option maxRecDepth 20000 in
theorem gX6_runCommand_X3_removeLinesOf : GoodIn wsX6_runCommand (wsV RX6 65 RX3 yX3_removeLinesOf wsX3_removeLinesOf) := goodIn_app (goodIn_of _ (by decide +kernel)) ggX6_runCommand_X3_removeLinesOf
set_option maxRecDepth 20000 in
theorem ggX6_runCommand_X0_numberAt : GoodIn wsX6_runCommand wsX0_numberAt := goodIn_r _ [73, 10, 74, 6, 7, 8, 9, 11, 75, 76, 77, 131, 132] (by decide +kernel) (by decide +kernel)
set_option maxRecDepth 20000 in
theorem gX6_runCommand_X0_numberAt : GoodIn wsX6_runCommand (wsV RX6 231 RX0 yX0_numberAt wsX0_numberAt) := goodIn_app (goodIn_of _ (by decide +kernel)) ggX6_runCommand_X0_numberAt
set_option maxRecDepth 20000 in
theorem ggX6_runCommand_X6_makeAccess : GoodIn wsX6_runCommand wsX6_makeAccess := goodIn_r _ [81, 2, 3, 82, 4, 83, 84, 85, 86, 87, 63, 88, 89, 65, 90, 15, 91, 92, 93, 94, 95, 96, 44, 97, 98, 99, 100, 101, 59, 102, 42, 43, 45, 46, 103, 104, 105, 106, 107, 108, 109, 110, 111, 112, 113, 114, 115, 116, 117, 118, 56, 57, 58, 12, 13, 14, 16, 17, 18, 19, 20, 21, 22, 23, 24, 25, 26, 27, 28, 29, 30, 31, 32, 33, 34, 35, 36, 37, 38, 39, 40, 41, 47, 48, 49, 50, 51, 52, 53, 54, 55, 60, 61, 62, 64, 119, 120, 121, 122, 123, 124, 125, 126, 127, 128, 129, 130, 137, 138, 133, 134, 135, 136] (by decide +kernel) (by decide +kernel)
set_option maxRecDepth 20000 in
theorem gX6_runCommand_X6_makeAccess : GoodIn wsX6_runCommand (wsV RX6 57 RX6 yX6_makeAccess wsX6_makeAccess) := goodIn_app (goodIn_of _ (by decide +kernel)) ggX6_runCommand_X6_makeAccess
