set_option maxRecDepth 20000 in
theorem ggL_gains_X6_gain : GoodIn wsL_gains wsX6_gain := goodIn_ca (goodIn_r _ [5, 6, 7, 8, 9, 10, 4, 11, 12, 13, 14, 15, 16, 17, 18, 19, 20, 21, 22, 23, 24, 25, 26, 27, 28, 29, 30] (by decide +kernel) (by decide +kernel)) (goodIn_sub (fun _ h => List.mem_cons_of_mem _ (List.mem_append_right _ h)) (by decide +kernel))
set_option maxRecDepth 20000 in
theorem gL_gains_X6_gain : GoodIn wsL_gains (wsV RL 55 RX6 yX6_gain wsX6_gain) := goodIn_app (goodIn_of _ (by decide +kernel)) ggL_gains_X6_gain
set_option maxRecDepth 20000 in
theorem ggL_position_X6_monitored : GoodIn wsL_position wsX6_monitored := goodIn_ca (goodIn_r _ [5, 6, 7, 8, 9, 10, 11, 12, 4, 13, 14, 15, 16, 17, 18, 19, 20, 21, 22, 23, 24, 25, 26, 27, 28, 29, 30, 31, 32, 33, 34, 35, 36] (by decide +kernel) (by decide +kernel)) (goodIn_sub (fun _ h => List.mem_cons_of_mem _ (List.mem_append_right _ h)) (by decide +kernel))
set_option maxRecDepth 20000 in
theorem gL_position_X6_monitored : GoodIn wsL_position (wsV RL 58 RX6 yX6_monitored wsX6_monitored) := goodIn_app (goodIn_of _ (by decide +kernel)) ggL_position_X6_monitored
set_option maxRecDepth 20000 in
theorem ggL_accesses_X6_ifAccessed : GoodIn wsL_accesses wsX6_ifAccessed := goodIn_ca (goodIn_ca (goodIn_r _ [5, 6, 7, 8, 9, 4, 10, 11, 12, 13, 14, 15, 16, 17, 18, 19, 20, 21, 22, 23, 24, 25, 26, 27, 28, 29, 30, 31, 32, 33, 34, 35, 215, 216, 217, 218, 219, 220, 221, 222, 223, 224, 225, 226, 227, 228, 229] (by decide +kernel) (by decide +kernel)) (goodIn_sub (fun _ h => List.mem_cons_of_mem _ (List.mem_append_left _ (List.mem_append_right _ h))) (by decide +kernel))) (goodIn_sub (fun _ h => List.mem_cons_of_mem _ (List.mem_append_right _ h)) (by decide +kernel))
set_option maxRecDepth 20000 in
theorem gL_accesses_X6_ifAccessed : GoodIn wsL_accesses (wsV RL 29 RX6 yX6_ifAccessed wsX6_ifAccessed) := goodIn_app (goodIn_of _ (by decide +kernel)) ggL_accesses_X6_ifAccessed
set_option maxRecDepth 20000 in
theorem ggL_accesses_X6_victim : GoodIn wsL_accesses wsX6_victim := goodIn_ca (goodIn_ca (goodIn_r _ [39, 6, 7, 40, 8, 9, 4, 10, 11, 12, 13, 14, 15, 16, 17, 18, 19, 20, 21, 22, 23, 24, 25, 26, 27, 28, 29, 30, 31, 32, 33, 34, 35, 41, 42, 43, 44, 45, 215, 216, 217, 218, 219, 220, 221, 222, 223, 224, 225, 226, 227, 228, 229] (by decide +kernel) (by decide +kernel)) (goodIn_sub (fun _ h => List.mem_cons_of_mem _ (List.mem_append_left _ (List.mem_append_right _ h))) (by decide +kernel))) (goodIn_sub (fun _ h => List.mem_cons_of_mem _ (List.mem_append_right _ h)) (by decide +kernel))
set_option maxRecDepth 20000 in
theorem gL_accesses_X6_victim : GoodIn wsL_accesses (wsV RL 62 RX6 yX6_victim wsX6_victim) := goodIn_app (goodIn_of _ (by decide +kernel)) ggL_accesses_X6_victim
set_option maxRecDepth 20000 in
theorem ggL_accesses_L_find : GoodIn wsL_accesses wsL_find := goodIn_ca (goodIn_r _ [49, 50, 51, 52, 4, 53, 6, 7, 40, 11, 12, 13, 14, 15, 215, 216, 217, 218, 219, 220, 221, 222, 223, 224, 225, 226, 227, 228, 229] (by decide +kernel) (by decide +kernel)) (goodIn_sub (fun _ h => List.mem_cons_of_mem _ (List.mem_append_left _ (List.mem_append_right _ h))) (by decide +kernel))
set_option maxRecDepth 20000 in
theorem gL_accesses_L_find : GoodIn wsL_accesses (va_wsS RL 23 yL_find wsL_find) := goodIn_app (goodIn_of _ (by decide +kernel)) ggL_accesses_L_find
set_option maxRecDepth 20000 in
theorem ggL_accesses_L_position : GoodIn wsL_accesses wsL_position := goodIn_ca (goodIn_r _ [56, 57, 58, 59, 4, 60, 14, 15, 6, 61, 62, 8, 9, 10, 11, 12, 13, 63, 64, 65, 66, 67, 68, 215, 216, 217, 218, 219, 220, 221, 222, 223, 224, 225, 226, 230, 231] (by decide +kernel) (by decide +kernel)) (goodIn_sub (fun _ h => List.mem_cons_of_mem _ (List.mem_append_left _ (List.mem_append_right _ h))) (by decide +kernel))
set_option maxRecDepth 20000 in
theorem gL_accesses_L_position : GoodIn wsL_accesses (va_wsS RL 65 yL_position wsL_position) := goodIn_app (goodIn_of _ (by decide +kernel)) ggL_accesses_L_position
set_option maxRecDepth 20000 in
theorem ggL_accesses_X6_gain : GoodIn wsL_accesses wsX6_gain := goodIn_ca (goodIn_r _ [72, 6, 61, 73, 8, 9, 4, 10, 11, 12, 13, 14, 15, 215, 216, 217, 218, 219, 220, 221, 222, 223, 224, 225, 226, 230, 231] (by decide +kernel) (by decide +kernel)) (goodIn_sub (fun _ h => List.mem_cons_of_mem _ (List.mem_append_left _ (List.mem_append_right _ h))) (by decide +kernel))
set_option maxRecDepth 20000 in
theorem gL_accesses_X6_gain : GoodIn wsL_accesses (wsV RL 55 RX6 yX6_gain wsX6_gain) := goodIn_app (goodIn_of _ (by decide +kernel)) ggL_accesses_X6_gain
set_option maxRecDepth 20000 in
theorem ggL_accesses_L_gains : GoodIn wsL_accesses wsL_gains := goodIn_ca (goodIn_r _ [76, 69, 70, 71, 4, 72, 6, 61, 73, 8, 9, 10, 11, 12, 13, 14, 15, 215, 216, 217, 218, 219, 220, 221, 222, 223, 224, 225, 226, 230, 231] (by decide +kernel) (by decide +kernel)) (goodIn_sub (fun _ h => List.mem_cons_of_mem _ (List.mem_append_left _ (List.mem_append_right _ h))) (by decide +kernel))
set_option maxRecDepth 20000 in
theorem gL_accesses_L_gains : GoodIn wsL_accesses (va_wsS RL 44 yL_gains wsL_gains) := goodIn_app (goodIn_of _ (by decide +kernel)) ggL_accesses_L_gains
set_option maxRecDepth 20000 in
theorem ggL_accesses_X6_monitored : GoodIn wsL_accesses wsX6_monitored := goodIn_ca (goodIn_r _ [60, 14, 15, 6, 61, 62, 8, 9, 4, 10, 11, 12, 13, 63, 64, 65, 66, 67, 68, 215, 216, 217, 218, 219, 220, 221, 222, 223, 224, 225, 226, 230, 231] (by decide +kernel) (by decide +kernel)) (goodIn_sub (fun _ h => List.mem_cons_of_mem _ (List.mem_append_left _ (List.mem_append_right _ h))) (by decide +kernel))
set_option maxRecDepth 20000 in
theorem gL_accesses_X6_monitored : GoodIn wsL_accesses (wsV RL 58 RX6 yX6_monitored wsX6_monitored) := goodIn_app (goodIn_of _ (by decide +kernel)) ggL_accesses_X6_monitored
set_option maxRecDepth 20000 in
theorem ggL_accesses_L_all : GoodIn wsL_accesses wsL_all := goodIn_ca (goodIn_r _ [79, 80, 81, 82, 4, 83, 6, 7, 8, 9, 10, 11, 12, 13, 14, 15, 84, 85, 86, 24, 87, 35, 88, 89, 90, 91, 92, 93, 94, 95, 30, 96, 97, 98, 99, 215, 216, 217, 218, 219, 220, 221, 222, 223, 224, 225, 226, 227, 228, 229] (by decide +kernel) (by decide +kernel)) (goodIn_sub (fun _ h => List.mem_cons_of_mem _ (List.mem_append_left _ (List.mem_append_right _ h))) (by decide +kernel))
set_option maxRecDepth 20000 in
theorem gL_accesses_L_all : GoodIn wsL_accesses (va_wsS RL 68 yL_all wsL_all) := goodIn_app (goodIn_of _ (by decide +kernel)) ggL_accesses_L_all
set_option maxRecDepth 20000 in
theorem ggL_accesses_X6_accesses : GoodIn wsL_accesses wsX6_accesses := goodIn_r _ [103, 6, 104, 215, 216, 217, 218, 219, 220, 221, 222, 223, 224, 225, 226] (by decide +kernel) (by decide +kernel)
set_option maxRecDepth 20000 in
theorem gL_accesses_X6_accesses : GoodIn wsL_accesses (wsV RL 52 RX6 yX6_accesses wsX6_accesses) := goodIn_app (goodIn_of _ (by decide +kernel)) ggL_accesses_X6_accesses
set_option maxRecDepth 20000 in
theorem ggL_accesses_X6_count : GoodIn wsL_accesses wsX6_count := goodIn_ca (goodIn_ca (goodIn_r _ [108, 6, 109, 8, 9, 4, 10, 11, 12, 13, 14, 15, 16, 17, 18, 19, 20, 215, 216, 217, 218, 219, 220, 221, 222, 223, 224, 225, 226] (by decide +kernel) (by decide +kernel)) (goodIn_sub (fun _ h => List.mem_cons_of_mem _ (List.mem_append_left _ (List.mem_append_right _ h))) (by decide +kernel))) (goodIn_sub (fun _ h => List.mem_cons_of_mem _ (List.mem_append_right _ h)) (by decide +kernel))
set_option maxRecDepth 20000 in
theorem gL_accesses_X6_count : GoodIn wsL_accesses (wsV RL 35 RX6 yX6_count wsX6_count) := goodIn_app (goodIn_of _ (by decide +kernel)) ggL_accesses_X6_count
set_option maxRecDepth 20000 in
theorem ggL_accesses_X6_access : GoodIn wsL_accesses wsX6_access := goodIn_ca (goodIn_ca (goodIn_r _ [113, 114, 6, 8, 9, 4, 10, 11, 12, 13, 14, 15, 16, 17, 18, 19, 20, 115, 116, 117, 118, 119, 120, 121, 122, 123, 124, 125, 126, 127, 128, 129, 130, 131, 132, 133, 134, 135, 136, 137, 138, 139, 140, 24, 141, 35, 142, 30, 45, 143, 144, 145, 146, 147, 148, 149, 150, 151, 152, 153, 154, 61, 104, 7, 109, 155, 156, 157, 158, 159, 64, 65, 67, 68, 21, 22, 23, 25, 26, 27, 28, 29, 31, 32, 33, 34, 160, 161, 162, 163, 164, 165, 166, 167, 40, 168, 41, 42, 43, 44, 169, 93, 94, 95, 170, 171, 172, 173, 174, 175, 176, 177, 178, 179, 180, 181, 182, 183, 184, 185, 186, 187, 188, 189, 190, 191, 192, 193, 194, 195, 196, 197, 198, 199, 200, 201, 202, 88, 89, 90, 91, 92, 203, 204, 205, 206, 215, 216, 217, 218, 219, 220, 232, 233, 234, 221, 222, 223, 224, 225, 226, 227, 228, 229, 230, 231, 235] (by decide +kernel) (by decide +kernel)) (goodIn_sub (fun _ h => List.mem_cons_of_mem _ (List.mem_append_left _ (List.mem_append_right _ h))) (by decide +kernel))) (goodIn_sub (fun _ h => List.mem_cons_of_mem _ (List.mem_append_right _ h)) (by decide +kernel))
set_option maxRecDepth 20000 in
theorem gL_accesses_X6_access : GoodIn wsL_accesses (wsV RL 72 RX6 yX6_access wsX6_access) := goodIn_app (goodIn_of _ (by decide +kernel)) ggL_accesses_X6_access
set_option maxRecDepth 20000 in
theorem ggL_accesses_X6_waysOf : GoodIn wsL_accesses wsX6_waysOf := goodIn_ca (goodIn_r _ [210, 6, 7, 8, 9, 4, 10, 11, 12, 13, 14, 15, 198, 32, 33, 24, 34, 35, 215, 216, 217, 218, 219, 220, 221, 222, 223, 224, 225, 226, 227, 228, 229] (by decide +kernel) (by decide +kernel)) (goodIn_sub (fun _ h => List.mem_cons_of_mem _ (List.mem_append_left _ (List.mem_append_right _ h))) (by decide +kernel))
set_option maxRecDepth 20000 in
theorem gL_accesses_X6_waysOf : GoodIn wsL_accesses (wsV RL 38 RX6 yX6_waysOf wsX6_waysOf) := goodIn_app (goodIn_of _ (by decide +kernel)) ggL_accesses_X6_waysOf
set_option maxRecDepth 20000 in
theorem ggL_accesses_X6_owner : GoodIn wsL_accesses wsX6_owner := goodIn_ca (goodIn_r _ [214, 6, 7, 175, 11, 12, 4, 13, 14, 15, 215, 216, 217, 218, 219, 220, 221, 222, 223, 224, 225, 226, 227, 228, 229] (by decide +kernel) (by decide +kernel)) (goodIn_sub (fun _ h => List.mem_cons_of_mem _ (List.mem_append_left _ (List.mem_append_right _ h))) (by decide +kernel))
set_option maxRecDepth 20000 in
theorem gL_accesses_X6_owner : GoodIn wsL_accesses (wsV RL 19 RX6 yX6_owner wsX6_owner) := goodIn_app (goodIn_of _ (by decide +kernel)) ggL_accesses_X6_owner
set_option maxRecDepth 20000 in
theorem ggL_moves_X6_movesLeft : GoodIn wsL_moves wsX6_movesLeft := goodIn_r _ [6, 7, 8, 9, 10, 11, 12, 13, 14, 15, 16, 17, 18, 19, 20, 21, 22, 23, 24, 25, 26, 27, 28, 29, 30, 31, 32, 5, 33, 34, 35, 36, 37, 38, 39, 40, 41, 138, 139, 140, 141, 142, 143, 144, 145, 146, 147, 148, 149, 150, 151, 152, 153, 154, 155] (by decide +kernel) (by decide +kernel)
set_option maxRecDepth 20000 in
theorem gL_moves_X6_movesLeft : GoodIn wsL_moves (wsV RL 48 RX6 yX6_movesLeft wsX6_movesLeft) := goodIn_app (goodIn_of _ (by decide +kernel)) ggL_moves_X6_movesLeft
set_option maxRecDepth 20000 in
theorem ggL_moves_L_all : GoodIn wsL_moves wsL_all := goodIn_ca (goodIn_r _ [45, 46, 47, 48, 5, 49, 8, 35, 50, 51, 52, 53, 54, 55, 56, 57, 58, 59, 60, 39, 61, 41, 62, 63, 64, 65, 66, 67, 68, 69, 70, 71, 72, 73, 74, 138, 139, 140, 141, 142, 143, 145, 146, 147, 148, 149, 150, 153, 154, 155] (by decide +kernel) (by decide +kernel)) (goodIn_sub (fun _ h => List.mem_cons_of_mem _ (List.mem_append_right _ h)) (by decide +kernel))
set_option maxRecDepth 20000 in
theorem gL_moves_L_all : GoodIn wsL_moves (va_wsS RL 68 yL_all wsL_all) := goodIn_app (goodIn_of _ (by decide +kernel)) ggL_moves_L_all
set_option maxRecDepth 20000 in
theorem ggL_moves_X6_owner : GoodIn wsL_moves wsX6_owner := goodIn_ca (goodIn_r _ [78, 8, 35, 79, 53, 54, 5, 55, 56, 57, 138, 139, 140, 141, 142, 143, 145, 146, 147, 148, 149, 150, 153, 154, 155] (by decide +kernel) (by decide +kernel)) (goodIn_sub (fun _ h => List.mem_cons_of_mem _ (List.mem_append_right _ h)) (by decide +kernel))
set_option maxRecDepth 20000 in
theorem gL_moves_X6_owner : GoodIn wsL_moves (wsV RL 19 RX6 yX6_owner wsX6_owner) := goodIn_app (goodIn_of _ (by decide +kernel)) ggL_moves_X6_owner
set_option maxRecDepth 20000 in
theorem ggL_moves_X6_moveWay : GoodIn wsL_moves wsX6_moveWay := goodIn_r _ [83, 84, 8, 85, 86, 87, 88, 89, 90, 91, 92, 93, 94, 95, 96, 97, 98, 99, 100, 101, 102, 103, 104, 105, 106, 107, 108, 109, 110, 39, 111, 41, 112, 70, 113, 114, 115, 116, 117, 118, 119, 120, 121, 122, 123, 124, 5, 125, 7, 35, 79, 13, 14, 15, 16, 17, 18, 19, 20, 21, 22, 23, 24, 25, 26, 27, 28, 29, 30, 31, 32, 33, 34, 36, 37, 38, 40, 126, 127, 128, 129, 62, 63, 64, 65, 66, 67, 68, 69, 138, 139, 140, 141, 142, 143, 156, 157, 158, 145, 146, 147, 148, 149, 150, 153, 154, 155, 151, 152, 144] (by decide +kernel) (by decide +kernel)
set_option maxRecDepth 20000 in
theorem gL_moves_X6_moveWay : GoodIn wsL_moves (wsV RL 75 RX6 yX6_moveWay wsX6_moveWay) := goodIn_app (goodIn_of _ (by decide +kernel)) ggL_moves_X6_moveWay
set_option maxRecDepth 20000 in
theorem ggL_moves_X6_waysOf : GoodIn wsL_moves wsX6_waysOf := goodIn_ca (goodIn_r _ [133, 8, 35, 50, 51, 5, 52, 53, 54, 55, 56, 57, 36, 37, 38, 39, 40, 41, 138, 139, 140, 141, 142, 143, 145, 146, 147, 148, 149, 150, 153, 154, 155] (by decide +kernel) (by decide +kernel)) (goodIn_sub (fun _ h => List.mem_cons_of_mem _ (List.mem_append_right _ h)) (by decide +kernel))
set_option maxRecDepth 20000 in
theorem gL_moves_X6_waysOf : GoodIn wsL_moves (wsV RL 38 RX6 yX6_waysOf wsX6_waysOf) := goodIn_app (goodIn_of _ (by decide +kernel)) ggL_moves_X6_waysOf
set_option maxRecDepth 20000 in
theorem ggL_moves_X6_target : GoodIn wsL_moves wsX6_target := goodIn_ca (goodIn_r _ [137, 7, 8, 34, 50, 51, 5, 52, 53, 54, 55, 56, 57, 13, 14, 15, 16, 17, 18, 19, 20, 21, 22, 23, 24, 25, 26, 27, 28, 29, 138, 139, 140, 141, 142, 143, 144, 145, 146, 147, 148, 149, 150, 151, 152] (by decide +kernel) (by decide +kernel)) (goodIn_sub (fun _ h => List.mem_cons_of_mem _ (List.mem_append_right _ h)) (by decide +kernel))
set_option maxRecDepth 20000 in
theorem gL_moves_X6_target : GoodIn wsL_moves (wsV RL 32 RX6 yX6_target wsX6_target) := goodIn_app (goodIn_of _ (by decide +kernel)) ggL_moves_X6_target
