set_option maxRecDepth 20000 in
theorem ggL_access_X6_access : GoodIn wsL_access wsX6_access := goodIn_ca (goodIn_ca (goodIn_r _ [7, 8, 9, 10, 11, 6, 12, 13, 14, 15, 16, 17, 18, 19, 20, 21, 22, 23, 24, 25, 26, 27, 28, 29, 30, 31, 32, 33, 34, 35, 36, 37, 38, 39, 40, 41, 42, 43, 44, 45, 46, 47, 48, 49, 50, 51, 52, 53, 54, 55, 56, 57, 58, 59, 60, 61, 62, 63, 64, 65, 66, 67, 68, 69, 70, 71, 72, 73, 74, 75, 76, 77, 78, 79, 80, 81, 82, 83, 84, 85, 86, 87, 88, 89, 90, 91, 92, 93, 94, 95, 96, 97, 98, 99, 100, 101, 102, 103, 104, 105, 106, 107, 108, 109, 110, 111, 112, 113, 114, 115, 116, 117, 118, 119, 120, 121, 122, 123, 124, 125, 126, 127, 128, 129, 130, 131, 132, 133, 134, 135, 136, 137, 138, 139, 140, 141, 142, 143, 144, 145, 146, 147, 148, 149, 150, 151, 152, 153, 154, 155, 156, 157, 158, 159, 160, 161, 162, 163, 164, 165, 166, 167, 168, 169, 170, 171, 172] (by decide +kernel) (by decide +kernel)) (goodIn_sub (fun _ h => List.mem_cons_of_mem _ (List.mem_append_left _ (List.mem_append_right _ h))) (by decide +kernel))) (goodIn_sub (fun _ h => List.mem_cons_of_mem _ (List.mem_append_right _ h)) (by decide +kernel))
set_option maxRecDepth 20000 in
theorem gL_access_X6_access : GoodIn wsL_access (wsV RL 7 RX6 yX6_access wsX6_access) := goodIn_app (goodIn_of _ (by decide +kernel)) ggL_access_X6_access
set_option maxRecDepth 20000 in
theorem ggL_stream_X6_stream : GoodIn wsL_stream wsX6_stream := goodIn_ca (goodIn_ca (goodIn_r _ [7, 8, 9, 10, 11, 6, 12, 13, 14, 15, 16, 17, 18, 19, 20, 21, 22, 23, 24, 25, 26, 27, 28, 29, 30, 31, 32, 33, 34, 35, 36, 37, 38, 39, 40, 41, 42, 43, 44, 45, 46, 47, 48, 49, 50, 51, 52, 53, 54, 55, 56, 57, 58, 59, 60, 61, 62, 63, 64, 65, 66, 67, 68, 69, 70, 71, 72, 73, 74, 75, 76, 77, 78, 79, 80, 81, 82, 83, 84, 85, 86, 87, 88, 89, 90, 91, 92, 93, 94, 95, 96, 97, 98, 99, 100, 101, 102, 103, 104, 105, 106, 107, 108, 109, 110, 111, 112, 113, 114, 115, 116, 117, 118, 119, 120, 121, 122, 123, 124, 125, 126, 127, 128, 129, 130, 131, 132, 133, 134, 135, 136, 137, 138, 139, 140, 141, 142, 143, 144, 145, 146, 147, 148, 149, 150, 151, 152, 153, 154, 155, 156, 157, 158, 159, 160, 161, 162, 163, 164, 165, 166, 167, 168, 169, 170, 171, 172] (by decide +kernel) (by decide +kernel)) (goodIn_sub (fun _ h => List.mem_cons_of_mem _ (List.mem_append_left _ (List.mem_append_right _ h))) (by decide +kernel))) (goodIn_sub (fun _ h => List.mem_cons_of_mem _ (List.mem_append_right _ h)) (by decide +kernel))
set_option maxRecDepth 20000 in
theorem gL_stream_X6_stream : GoodIn wsL_stream (wsV RL 17 RX6 yX6_stream wsX6_stream) := goodIn_app (goodIn_of _ (by decide +kernel)) ggL_stream_X6_stream
set_option maxRecDepth 20000 in
theorem ggL_flush_X6_flush : GoodIn wsL_flush wsX6_flush := goodIn_ca (goodIn_r _ [6, 7, 8, 9, 10, 11, 5, 12, 13, 14, 15, 16, 17, 18, 19, 20, 21, 22, 23, 24, 25, 26, 27, 28, 29, 30, 31, 32, 33, 34, 35, 36, 37, 38, 39, 40, 41, 42, 43, 44, 45, 46, 47, 48, 49, 50, 51, 52, 53, 54, 55, 56, 57, 58, 59, 60, 61, 62, 63, 64, 65, 66, 67, 68, 69, 70, 71, 72, 73, 74, 75, 76, 77, 78, 79, 80, 81, 82, 83, 84, 85] (by decide +kernel) (by decide +kernel)) (goodIn_sub (fun _ h => List.mem_cons_of_mem _ (List.mem_append_right _ h)) (by decide +kernel))
set_option maxRecDepth 20000 in
theorem gL_flush_X6_flush : GoodIn wsL_flush (wsV RL 21 RX6 yX6_flush wsX6_flush) := goodIn_app (goodIn_of _ (by decide +kernel)) ggL_flush_X6_flush
set_option maxRecDepth 20000 in
theorem ggL_giveWay_X6_giveWay : GoodIn wsL_giveWay wsX6_giveWay := goodIn_ca (goodIn_r _ [6, 7, 8, 9, 10, 11, 12, 5, 13, 14, 15, 16, 17, 18, 19, 20, 21, 22, 23, 24, 25, 26, 27, 28, 29, 30, 31, 32, 33, 34, 35, 36, 37, 38, 39, 40, 41, 42, 43, 44, 45, 46, 47, 48, 49, 50, 51, 52, 53, 54, 55, 56, 57, 58, 59, 60, 61, 62, 63, 64, 65, 66, 67, 68, 69, 70, 71, 72, 73, 74, 75, 76, 77, 78] (by decide +kernel) (by decide +kernel)) (goodIn_sub (fun _ h => List.mem_cons_of_mem _ (List.mem_append_right _ h)) (by decide +kernel))
set_option maxRecDepth 20000 in
theorem gL_giveWay_X6_giveWay : GoodIn wsL_giveWay (wsV RL 25 RX6 yX6_giveWay wsX6_giveWay) := goodIn_app (goodIn_of _ (by decide +kernel)) ggL_giveWay_X6_giveWay
set_option maxRecDepth 20000 in
theorem ggL_setLeast_X6_setLeast : GoodIn wsL_setLeast wsX6_setLeast := goodIn_ca (goodIn_ca (goodIn_r _ [7, 8, 9, 10, 11, 12, 6, 13, 14, 15, 16, 17, 18, 19, 20, 21, 22, 23, 24, 25, 26, 27, 28, 29, 30, 31, 32, 33, 34, 35, 36, 37, 38, 39, 40, 41, 42, 43, 44, 45, 46, 47, 48, 49, 50, 51, 52, 53, 54, 55, 56, 57, 58, 59, 60, 61, 62, 63, 64, 65, 66, 67, 68, 69, 70, 71, 72, 73, 74, 75, 76, 77, 78, 79, 80, 81, 82, 83] (by decide +kernel) (by decide +kernel)) (goodIn_sub (fun _ h => List.mem_cons_of_mem _ (List.mem_append_left _ (List.mem_append_right _ h))) (by decide +kernel))) (goodIn_sub (fun _ h => List.mem_cons_of_mem _ (List.mem_append_right _ h)) (by decide +kernel))
set_option maxRecDepth 20000 in
theorem gL_setLeast_X6_setLeast : GoodIn wsL_setLeast (wsV RL 28 RX6 yX6_setLeast wsX6_setLeast) := goodIn_app (goodIn_of _ (by decide +kernel)) ggL_setLeast_X6_setLeast
set_option maxRecDepth 20000 in
theorem ggL_setEpoch_X6_setEpoch : GoodIn wsL_setEpoch wsX6_setEpoch := goodIn_ca (goodIn_r _ [6, 7, 8, 9, 10, 11, 5, 12, 13, 14, 15, 16, 17, 18, 19, 20, 21, 22, 23, 24, 25, 26, 27, 28, 29, 30, 31, 32, 33, 34, 35, 36, 37, 38, 39, 40, 41, 42, 43, 44, 45, 46, 47, 48, 49, 50, 51, 52, 53, 54, 55, 56, 57, 58, 59, 60, 61, 62, 63, 64, 65, 66, 67, 68, 69, 70, 71, 72, 73, 74] (by decide +kernel) (by decide +kernel)) (goodIn_sub (fun _ h => List.mem_cons_of_mem _ (List.mem_append_right _ h)) (by decide +kernel))
set_option maxRecDepth 20000 in
theorem gL_setEpoch_X6_setEpoch : GoodIn wsL_setEpoch (wsV RL 31 RX6 yX6_setEpoch wsX6_setEpoch) := goodIn_app (goodIn_of _ (by decide +kernel)) ggL_setEpoch_X6_setEpoch
set_option maxRecDepth 20000 in
theorem ggL_appendText_X6_appendText : GoodIn wsL_appendText wsX6_appendText := goodIn_ca (goodIn_ca (goodIn_r _ [7, 8, 9, 10, 11, 12, 13, 6, 14, 15, 16, 17, 18, 19, 20, 21, 22, 23, 24, 25, 26, 27, 28, 29, 30, 31] (by decide +kernel) (by decide +kernel)) (goodIn_sub (fun _ h => List.mem_cons_of_mem _ (List.mem_append_left _ (List.mem_append_right _ h))) (by decide +kernel))) (goodIn_sub (fun _ h => List.mem_cons_of_mem _ (List.mem_append_right _ h)) (by decide +kernel))
set_option maxRecDepth 20000 in
theorem gL_appendText_X6_appendText : GoodIn wsL_appendText (wsV RL 34 RX6 yX6_appendText wsX6_appendText) := goodIn_app (goodIn_of _ (by decide +kernel)) ggL_appendText_X6_appendText
set_option maxRecDepth 20000 in
theorem ggL_runText_X6_runText : GoodIn wsL_runText wsX6_runText := goodIn_ca (goodIn_r _ [6, 7, 8, 9, 10, 11, 12, 13, 14, 15, 16, 17, 18, 19, 20, 21, 22, 23, 24, 25, 26, 27, 28, 29, 30, 31, 32, 33, 34, 35, 36, 37, 38, 39, 40, 41, 42, 43, 44, 45, 46, 47, 48, 49, 50, 51, 52, 53, 54, 55, 56, 57, 58, 59, 60, 61, 62, 63, 64, 65, 66, 67, 68, 69, 70, 71, 72, 73, 74, 75, 76, 77, 78, 79, 80, 81, 82, 83, 84, 85, 5, 86, 87, 88, 89, 90, 91, 92, 93, 94, 95, 96, 97, 98, 99, 100, 101, 102, 103, 104, 105, 106, 107, 108, 109, 110, 111, 112, 113, 114, 115, 116, 117, 118, 119, 120, 121, 122, 123, 124, 125, 126, 127, 128, 129, 130, 131, 132, 133, 134, 135, 136, 137, 138, 139, 140, 141, 142, 143, 144, 145, 146, 147, 148, 149, 150, 151, 152, 153, 154, 155, 156, 157, 158, 159, 160, 161, 162, 163, 164, 165, 166, 167, 168, 169, 170, 171, 172, 173, 174, 175, 176, 177, 178, 179, 180, 181, 182, 183, 184, 185, 186, 187, 188, 189, 190, 191, 192, 193, 194, 195, 196, 197, 198, 199, 200, 201, 202, 203, 204, 205, 206, 207] (by decide +kernel) (by decide +kernel)) (goodIn_sub (fun _ h => List.mem_cons_of_mem _ (List.mem_append_right _ h)) (by decide +kernel))
set_option maxRecDepth 20000 in
theorem gL_runText_X6_runText : GoodIn wsL_runText (wsV RL 39 RX6 yX6_runText wsX6_runText) := goodIn_app (goodIn_of _ (by decide +kernel)) ggL_runText_X6_runText
set_option maxRecDepth 20000 in
theorem ggL_undo_X6_undo : GoodIn wsL_undo wsX6_undo := goodIn_ca (goodIn_r _ [6, 7, 8, 9, 10, 11, 12, 13, 14, 15, 16, 17, 18, 19, 20, 21, 22, 23, 24, 25, 26, 27, 28, 29, 30, 31, 32, 33, 34, 35, 36, 37, 38, 39, 40, 41, 42, 43, 44, 45, 46, 47, 48, 49, 50, 51, 52, 53, 54, 55, 56, 57, 58, 59, 60, 61, 62, 63, 64, 65, 66, 67, 68, 69, 70, 71] (by decide +kernel) (by decide +kernel)) (goodIn_sub (fun _ h => List.mem_cons_of_mem _ (List.mem_append_right _ h)) (by decide +kernel))
set_option maxRecDepth 20000 in
theorem gL_undo_X6_undo : GoodIn wsL_undo (wsV RL 43 RX6 yX6_undo wsX6_undo) := goodIn_app (goodIn_of _ (by decide +kernel)) ggL_undo_X6_undo
set_option maxRecDepth 20000 in
theorem ggL_save_X6_save : GoodIn wsL_save wsX6_save := goodIn_ca (goodIn_r _ [6, 7, 8, 9, 10, 11, 12, 5, 13, 14, 15, 16, 17, 18, 19, 20, 21, 22, 23, 24, 25, 26, 27, 28, 29, 30, 31, 32, 33, 34, 35, 36, 37, 38, 39, 40, 41, 42, 43, 44, 45, 46, 47, 48, 49, 50, 51, 52, 53, 54, 55, 56, 57, 58, 59, 60, 61, 62, 63, 64, 65, 66, 67, 68, 69, 70, 71, 72, 73, 74, 75, 76, 77, 78, 79, 80] (by decide +kernel) (by decide +kernel)) (goodIn_sub (fun _ h => List.mem_cons_of_mem _ (List.mem_append_right _ h)) (by decide +kernel))
set_option maxRecDepth 20000 in
theorem gL_save_X6_save : GoodIn wsL_save (wsV RL 46 RX6 yX6_save wsX6_save) := goodIn_app (goodIn_of _ (by decide +kernel)) ggL_save_X6_save
set_option maxRecDepth 20000 in
theorem ggL_restore_X6_restore : GoodIn wsL_restore wsX6_restore := goodIn_ca (goodIn_ca (goodIn_r _ [7, 8, 9, 10, 11, 12, 13, 14, 15, 16, 6, 17, 18, 19, 20, 21, 22, 23, 24, 25, 26, 27, 28, 29, 30, 31, 32, 33, 34, 35, 36, 37, 38, 39, 40, 41, 42, 43, 44, 45, 46, 47, 48, 49, 50, 51, 52, 53, 54, 55, 56, 57, 58, 59, 60, 61, 62, 63, 64, 65, 66, 67, 68, 69, 70, 71, 72, 73, 74, 75, 76, 77, 78, 79, 80, 81, 82, 83, 84, 85, 86, 87, 88, 89, 90, 91, 92, 93, 94, 95, 96] (by decide +kernel) (by decide +kernel)) (goodIn_sub (fun _ h => List.mem_cons_of_mem _ (List.mem_append_left _ (List.mem_append_right _ h))) (by decide +kernel))) (goodIn_sub (fun _ h => List.mem_cons_of_mem _ (List.mem_append_right _ h)) (by decide +kernel))
set_option maxRecDepth 20000 in
theorem gL_restore_X6_restore : GoodIn wsL_restore (wsV RL 49 RX6 yX6_restore wsX6_restore) := goodIn_app (goodIn_of _ (by decide +kernel)) ggL_restore_X6_restore
set_option maxRecDepth 20000 in
theorem ggL_owner_X6_owner : GoodIn wsL_owner wsX6_owner := goodIn_ca (goodIn_r _ [6, 7, 8, 9, 10, 11, 5, 12, 13, 14, 15, 16, 17, 18, 19, 20, 21, 22, 23, 24, 25, 26, 27, 28, 29] (by decide +kernel) (by decide +kernel)) (goodIn_sub (fun _ h => List.mem_cons_of_mem _ (List.mem_append_right _ h)) (by decide +kernel))
set_option maxRecDepth 20000 in
theorem gL_owner_X6_owner : GoodIn wsL_owner (wsV RL 52 RX6 yX6_owner wsX6_owner) := goodIn_app (goodIn_of _ (by decide +kernel)) ggL_owner_X6_owner
set_option maxRecDepth 20000 in
theorem ggL_waysOf_X6_waysOf : GoodIn wsL_waysOf wsX6_waysOf := goodIn_ca (goodIn_r _ [6, 7, 8, 9, 10, 5, 11, 12, 13, 14, 15, 16, 17, 18, 19, 20, 21, 22, 23, 24, 25, 26, 27, 28, 29, 30, 31, 32, 33, 34, 35, 36, 37] (by decide +kernel) (by decide +kernel)) (goodIn_sub (fun _ h => List.mem_cons_of_mem _ (List.mem_append_right _ h)) (by decide +kernel))
set_option maxRecDepth 20000 in
theorem gL_waysOf_X6_waysOf : GoodIn wsL_waysOf (wsV RL 55 RX6 yX6_waysOf wsX6_waysOf) := goodIn_app (goodIn_of _ (by decide +kernel)) ggL_waysOf_X6_waysOf
set_option maxRecDepth 20000 in
theorem ggL_line_X6_line : GoodIn wsL_line wsX6_line := goodIn_ca (goodIn_r _ [6, 7, 8, 9, 10, 11, 5, 12, 13, 14, 15, 16, 17, 18, 19, 20, 21, 22, 23, 24, 25, 26, 27, 28, 29] (by decide +kernel) (by decide +kernel)) (goodIn_sub (fun _ h => List.mem_cons_of_mem _ (List.mem_append_right _ h)) (by decide +kernel))
set_option maxRecDepth 20000 in
theorem gL_line_X6_line : GoodIn wsL_line (wsV RL 58 RX6 yX6_line wsX6_line) := goodIn_app (goodIn_of _ (by decide +kernel)) ggL_line_X6_line
set_option maxRecDepth 20000 in
theorem ggL_lines_X6_lines : GoodIn wsL_lines wsX6_lines := goodIn_ca (goodIn_r _ [6, 7, 8, 9, 10, 5, 11, 12, 13, 14, 15, 16, 17, 18, 19, 20, 21, 22, 23, 24, 25, 26, 27, 28, 29, 30, 31, 32, 33, 34, 35, 36, 37, 38, 39, 40, 41, 42, 43, 44, 45, 46, 47, 48, 49, 50] (by decide +kernel) (by decide +kernel)) (goodIn_sub (fun _ h => List.mem_cons_of_mem _ (List.mem_append_right _ h)) (by decide +kernel))
set_option maxRecDepth 20000 in
theorem gL_lines_X6_lines : GoodIn wsL_lines (wsV RL 61 RX6 yX6_lines wsX6_lines) := goodIn_app (goodIn_of _ (by decide +kernel)) ggL_lines_X6_lines
set_option maxRecDepth 20000 in
theorem ggL_ifAccessed_X6_ifAccessed : GoodIn wsL_ifAccessed wsX6_ifAccessed := goodIn_ca (goodIn_ca (goodIn_r _ [7, 8, 9, 10, 11, 6, 12, 13, 14, 15, 16, 17, 18, 19, 20, 21, 22, 23, 24, 25, 26, 27, 28, 29, 30, 31, 32, 33, 34, 35, 36, 37, 38, 39, 40, 41, 42, 43, 44, 45, 46, 47, 48, 49, 50, 51, 52] (by decide +kernel) (by decide +kernel)) (goodIn_sub (fun _ h => List.mem_cons_of_mem _ (List.mem_append_left _ (List.mem_append_right _ h))) (by decide +kernel))) (goodIn_sub (fun _ h => List.mem_cons_of_mem _ (List.mem_append_right _ h)) (by decide +kernel))
set_option maxRecDepth 20000 in
theorem gL_ifAccessed_X6_ifAccessed : GoodIn wsL_ifAccessed (wsV RL 65 RX6 yX6_ifAccessed wsX6_ifAccessed) := goodIn_app (goodIn_of _ (by decide +kernel)) ggL_ifAccessed_X6_ifAccessed
set_option maxRecDepth 20000 in
theorem ggL_victim_X6_victim : GoodIn wsL_victim wsX6_victim := goodIn_ca (goodIn_ca (goodIn_r _ [7, 8, 9, 10, 11, 12, 6, 13, 14, 15, 16, 17, 18, 19, 20, 21, 22, 23, 24, 25, 26, 27, 28, 29, 30, 31, 32, 33, 34, 35, 36, 37, 38, 39, 40, 41, 42, 43, 44, 45, 46, 47, 48, 49, 50, 51, 52, 53, 54, 55, 56, 57, 58] (by decide +kernel) (by decide +kernel)) (goodIn_sub (fun _ h => List.mem_cons_of_mem _ (List.mem_append_left _ (List.mem_append_right _ h))) (by decide +kernel))) (goodIn_sub (fun _ h => List.mem_cons_of_mem _ (List.mem_append_right _ h)) (by decide +kernel))
set_option maxRecDepth 20000 in
theorem gL_victim_X6_victim : GoodIn wsL_victim (wsV RL 68 RX6 yX6_victim wsX6_victim) := goodIn_app (goodIn_of _ (by decide +kernel)) ggL_victim_X6_victim
set_option maxRecDepth 20000 in
theorem ggL_gain_X6_gain : GoodIn wsL_gain wsX6_gain := goodIn_ca (goodIn_r _ [6, 7, 8, 9, 10, 11, 5, 12, 13, 14, 15, 16, 17, 18, 19, 20, 21, 22, 23, 24, 25, 26, 27, 28, 29, 30, 31] (by decide +kernel) (by decide +kernel)) (goodIn_sub (fun _ h => List.mem_cons_of_mem _ (List.mem_append_right _ h)) (by decide +kernel))
set_option maxRecDepth 20000 in
theorem gL_gain_X6_gain : GoodIn wsL_gain (wsV RL 71 RX6 yX6_gain wsX6_gain) := goodIn_app (goodIn_of _ (by decide +kernel)) ggL_gain_X6_gain
set_option maxRecDepth 20000 in
theorem ggL_utility_X6_utility : GoodIn wsL_utility wsX6_utility := goodIn_ca (goodIn_ca (goodIn_r _ [7, 8, 9, 10, 11, 6, 12, 13, 14, 15, 16, 17, 18, 19, 20, 21, 22, 23, 24, 25, 26, 27, 28, 29, 30, 31, 32, 33, 34, 35, 36, 37, 38, 39, 40, 41, 42] (by decide +kernel) (by decide +kernel)) (goodIn_sub (fun _ h => List.mem_cons_of_mem _ (List.mem_append_left _ (List.mem_append_right _ h))) (by decide +kernel))) (goodIn_sub (fun _ h => List.mem_cons_of_mem _ (List.mem_append_right _ h)) (by decide +kernel))
set_option maxRecDepth 20000 in
theorem gL_utility_X6_utility : GoodIn wsL_utility (wsV RL 74 RX6 yX6_utility wsX6_utility) := goodIn_app (goodIn_of _ (by decide +kernel)) ggL_utility_X6_utility
set_option maxRecDepth 20000 in
theorem ggL_monitored_X6_monitored : GoodIn wsL_monitored wsX6_monitored := goodIn_ca (goodIn_r _ [6, 7, 8, 9, 10, 11, 12, 13, 5, 14, 15, 16, 17, 18, 19, 20, 21, 22, 23, 24, 25, 26, 27, 28, 29, 30, 31, 32, 33, 34, 35, 36, 37] (by decide +kernel) (by decide +kernel)) (goodIn_sub (fun _ h => List.mem_cons_of_mem _ (List.mem_append_right _ h)) (by decide +kernel))
set_option maxRecDepth 20000 in
theorem gL_monitored_X6_monitored : GoodIn wsL_monitored (wsV RL 77 RX6 yX6_monitored wsX6_monitored) := goodIn_app (goodIn_of _ (by decide +kernel)) ggL_monitored_X6_monitored
set_option maxRecDepth 20000 in
theorem ggL_target_X6_target : GoodIn wsL_target wsX6_target := goodIn_ca (goodIn_r _ [6, 7, 8, 9, 10, 11, 5, 12, 13, 14, 15, 16, 17, 18, 19, 20, 21, 22, 23, 24, 25, 26, 27, 28, 29, 30, 31, 32, 33, 34, 35, 36, 37, 38, 39, 40, 41, 42, 43, 44, 45, 46, 47, 48, 49] (by decide +kernel) (by decide +kernel)) (goodIn_sub (fun _ h => List.mem_cons_of_mem _ (List.mem_append_right _ h)) (by decide +kernel))
set_option maxRecDepth 20000 in
theorem gL_target_X6_target : GoodIn wsL_target (wsV RL 81 RX6 yX6_target wsX6_target) := goodIn_app (goodIn_of _ (by decide +kernel)) ggL_target_X6_target
set_option maxRecDepth 20000 in
theorem ggL_count_X6_count : GoodIn wsL_count wsX6_count := goodIn_ca (goodIn_ca (goodIn_r _ [7, 8, 9, 10, 11, 6, 12, 13, 14, 15, 16, 17, 18, 19, 20, 21, 22, 23, 24, 25, 26, 27, 28, 29, 30, 31, 32, 33, 34] (by decide +kernel) (by decide +kernel)) (goodIn_sub (fun _ h => List.mem_cons_of_mem _ (List.mem_append_left _ (List.mem_append_right _ h))) (by decide +kernel))) (goodIn_sub (fun _ h => List.mem_cons_of_mem _ (List.mem_append_right _ h)) (by decide +kernel))
set_option maxRecDepth 20000 in
theorem gL_count_X6_count : GoodIn wsL_count (wsV RL 84 RX6 yX6_count wsX6_count) := goodIn_app (goodIn_of _ (by decide +kernel)) ggL_count_X6_count
set_option maxRecDepth 20000 in
theorem ggL_hitRate_X6_hitRate : GoodIn wsL_hitRate wsX6_hitRate := goodIn_ca (goodIn_r _ [6, 7, 8, 9, 10, 5, 11, 12, 13, 14, 15, 16, 17, 18, 19, 20, 21, 22, 23, 24, 25, 26, 27, 28] (by decide +kernel) (by decide +kernel)) (goodIn_sub (fun _ h => List.mem_cons_of_mem _ (List.mem_append_right _ h)) (by decide +kernel))
set_option maxRecDepth 20000 in
theorem gL_hitRate_X6_hitRate : GoodIn wsL_hitRate (wsV RL 87 RX6 yX6_hitRate wsX6_hitRate) := goodIn_app (goodIn_of _ (by decide +kernel)) ggL_hitRate_X6_hitRate
set_option maxRecDepth 20000 in
theorem ggL_law_X6_init : GoodIn wsL_law wsX6_init := goodIn_r _ [10, 11, 12, 13, 14, 15, 16, 17, 18, 19, 20, 21, 22, 23, 24, 25, 26, 27, 28, 29, 30, 31, 32, 33, 34, 35, 36, 37, 38, 39, 40, 41, 42, 43, 44, 45, 46, 47, 48, 49, 50, 51, 52, 53, 54, 55, 56, 57, 58, 59, 60, 61, 62, 63, 64, 65, 66, 67, 68, 69, 70, 71, 72, 73, 74, 75, 76, 77, 78, 79, 80, 81, 758, 759, 760, 761, 762, 763, 741, 742, 743, 744, 745, 746, 764, 765, 766, 767, 768, 769, 770, 771, 772, 773, 774] (by decide +kernel) (by decide +kernel)
set_option maxRecDepth 20000 in
theorem gL_law_X6_init : GoodIn wsL_law (wsX6_init) := ggL_law_X6_init
set_option maxRecDepth 20000 in
theorem ggL_law_X7_init : GoodIn wsL_law wsX7_init := goodIn_r _ [84, 85, 12, 13, 45, 86, 87, 88, 31, 89, 90, 91, 747, 748, 749, 750, 751, 752, 753, 754, 755, 756, 757] (by decide +kernel) (by decide +kernel)
set_option maxRecDepth 20000 in
theorem gL_law_X7_init : GoodIn wsL_law (wsX7_init) := ggL_law_X7_init
set_option maxRecDepth 20000 in
theorem ggL_law_L_access : GoodIn wsL_law wsL_access := goodIn_ca (goodIn_ca (goodIn_r _ [95, 96, 97, 98, 99, 100, 2, 101, 25, 17, 102, 103, 104, 105, 106, 107, 108, 109, 110, 111, 112, 113, 114, 115, 116, 117, 24, 118, 72, 73, 74, 119, 120, 121, 16, 122, 40, 44, 46, 123, 124, 125, 126, 47, 48, 49, 127, 128, 129, 39, 130, 54, 131, 55, 56, 132, 133, 134, 43, 135, 61, 136, 62, 137, 138, 139, 140, 141, 142, 143, 144, 145, 146, 147, 148, 149, 150, 151, 152, 153, 154, 155, 156, 157, 158, 159, 160, 161, 162, 163, 164, 165, 166, 167, 168, 169, 170, 171, 172, 173, 174, 175, 176, 177, 178, 179, 180, 181, 182, 183, 184, 185, 186, 187, 21, 188, 189, 190, 191, 20, 192, 66, 193, 194, 195, 196, 197, 198, 199, 200, 201, 202, 203, 204, 205, 206, 207, 208, 209, 210, 211, 212, 213, 214, 215, 216, 217, 218, 219, 220, 221, 222, 741, 742, 743, 744, 745, 746, 765, 766, 767, 758, 759, 760, 761, 762, 763, 770, 771, 772, 773, 774, 764] (by decide +kernel) (by decide +kernel)) (goodIn_sub (fun _ h => List.mem_append_left _ (List.mem_append_left _ (List.mem_append_right _ h))) (by decide +kernel))) (goodIn_sub (fun _ h => List.mem_append_left _ (List.mem_append_right _ h)) (by decide +kernel))
set_option maxRecDepth 20000 in
theorem gL_law_L_access : GoodIn wsL_law (va_wsS RL 95 yL_access wsL_access) := goodIn_app (goodIn_of _ (by decide +kernel)) ggL_law_L_access
set_option maxRecDepth 20000 in
theorem ggL_law_X7_access : GoodIn wsL_law wsX7_access := goodIn_r _ [226, 227, 228, 229, 5, 230, 231, 232, 233, 234, 235, 236, 237, 238, 239, 87, 86, 240, 241, 242, 243, 244, 245, 246, 247, 248, 249, 250, 251, 252, 253, 254, 255, 256, 257, 258, 259, 260, 261, 262, 263, 264, 265, 266, 267, 268, 269, 270, 271, 272, 273, 274, 275, 90, 276, 277, 278, 279, 280, 281, 282, 283, 284, 285, 286, 287, 288, 289, 290, 291, 292, 293, 294, 295, 296, 297, 298, 299, 747, 748, 749, 750, 751, 752, 753, 754, 755, 756, 757] (by decide +kernel) (by decide +kernel)
set_option maxRecDepth 20000 in
theorem gL_law_X7_access : GoodIn wsL_law (wsV RL 100 RX7 yX7_access wsX7_access) := goodIn_app (goodIn_of _ (by decide +kernel)) ggL_law_X7_access
set_option maxRecDepth 20000 in
theorem ggL_law_X7_thrown : GoodIn wsL_law wsX7_thrown := goodIn_r _ [303, 227, 747, 748, 749, 750, 751, 752, 753, 754, 755, 756, 757] (by decide +kernel) (by decide +kernel)
set_option maxRecDepth 20000 in
theorem gL_law_X7_thrown : GoodIn wsL_law (wsV RL 101 RX7 yX7_thrown wsX7_thrown) := goodIn_app (goodIn_of _ (by decide +kernel)) ggL_law_X7_thrown
set_option maxRecDepth 20000 in
theorem ggL_law_L_stream : GoodIn wsL_law wsL_stream := goodIn_ca (goodIn_ca (goodIn_r _ [306, 96, 97, 307, 308, 309, 2, 310, 25, 17, 102, 103, 104, 105, 106, 107, 108, 109, 110, 111, 112, 113, 114, 115, 116, 117, 24, 118, 72, 73, 74, 119, 120, 121, 16, 122, 40, 44, 46, 123, 124, 125, 126, 47, 48, 49, 127, 128, 129, 39, 130, 54, 131, 55, 56, 132, 133, 134, 43, 135, 61, 136, 62, 137, 138, 139, 140, 141, 142, 143, 144, 145, 146, 147, 148, 149, 150, 151, 152, 153, 154, 155, 156, 157, 158, 159, 160, 161, 162, 163, 164, 165, 166, 167, 168, 169, 170, 171, 172, 173, 174, 175, 176, 177, 178, 179, 180, 181, 182, 183, 184, 185, 186, 187, 21, 188, 189, 190, 191, 20, 192, 66, 193, 194, 195, 196, 197, 198, 199, 200, 201, 202, 203, 204, 205, 206, 207, 208, 209, 210, 211, 212, 213, 214, 215, 216, 217, 218, 219, 220, 221, 222, 741, 742, 743, 744, 745, 746, 765, 766, 767, 758, 759, 760, 761, 762, 763, 770, 771, 772, 773, 774, 764] (by decide +kernel) (by decide +kernel)) (goodIn_sub (fun _ h => List.mem_append_left _ (List.mem_append_left _ (List.mem_append_right _ h))) (by decide +kernel))) (goodIn_sub (fun _ h => List.mem_append_left _ (List.mem_append_right _ h)) (by decide +kernel))
set_option maxRecDepth 20000 in
theorem gL_law_L_stream : GoodIn wsL_law (va_wsS RL 104 yL_stream wsL_stream) := goodIn_app (goodIn_of _ (by decide +kernel)) ggL_law_L_stream
set_option maxRecDepth 20000 in
theorem ggL_law_X7_stream : GoodIn wsL_law wsX7_stream := goodIn_r _ [314, 227, 228, 229, 5, 230, 231, 232, 233, 234, 235, 236, 237, 238, 239, 87, 86, 240, 241, 242, 243, 244, 245, 246, 247, 248, 249, 250, 251, 252, 253, 254, 255, 256, 257, 258, 259, 260, 261, 262, 263, 264, 265, 266, 267, 268, 269, 270, 271, 272, 273, 274, 275, 90, 276, 277, 278, 279, 280, 281, 282, 283, 284, 285, 286, 287, 288, 289, 290, 291, 292, 293, 294, 295, 296, 297, 298, 299, 747, 748, 749, 750, 751, 752, 753, 754, 755, 756, 757] (by decide +kernel) (by decide +kernel)
set_option maxRecDepth 20000 in
theorem gL_law_X7_stream : GoodIn wsL_law (wsV RL 107 RX7 yX7_stream wsX7_stream) := goodIn_app (goodIn_of _ (by decide +kernel)) ggL_law_X7_stream
set_option maxRecDepth 20000 in
theorem ggL_law_L_flush : GoodIn wsL_law wsL_flush := goodIn_ca (goodIn_r _ [317, 96, 318, 319, 320, 2, 321, 25, 17, 143, 102, 103, 104, 105, 106, 107, 108, 109, 115, 116, 117, 24, 118, 72, 73, 74, 119, 120, 121, 16, 122, 40, 44, 46, 123, 124, 125, 126, 47, 48, 49, 127, 128, 129, 39, 130, 54, 131, 55, 56, 132, 133, 134, 43, 135, 61, 136, 62, 322, 323, 324, 325, 218, 181, 182, 183, 741, 742, 743, 744, 745, 746, 758, 759, 760, 761, 762, 763, 765, 766, 767, 770, 771, 772, 773, 774] (by decide +kernel) (by decide +kernel)) (goodIn_sub (fun _ h => List.mem_append_left _ (List.mem_append_left _ (List.mem_append_right _ h))) (by decide +kernel))
set_option maxRecDepth 20000 in
theorem gL_law_L_flush : GoodIn wsL_law (va_wsS RL 108 yL_flush wsL_flush) := goodIn_app (goodIn_of _ (by decide +kernel)) ggL_law_L_flush
set_option maxRecDepth 20000 in
theorem ggL_law_X7_flush : GoodIn wsL_law wsX7_flush := goodIn_r _ [329, 227, 228, 229, 5, 230, 231, 232, 233, 234, 235, 236, 237, 238, 239, 87, 86, 330, 331, 332, 333, 747, 748, 749, 750, 751, 752, 753, 754, 755, 756, 757] (by decide +kernel) (by decide +kernel)
set_option maxRecDepth 20000 in
theorem gL_law_X7_flush : GoodIn wsL_law (wsV RL 111 RX7 yX7_flush wsX7_flush) := goodIn_app (goodIn_of _ (by decide +kernel)) ggL_law_X7_flush
set_option maxRecDepth 20000 in
theorem ggL_law_X6_moveWay : GoodIn wsL_law wsX6_moveWay := goodIn_r _ [337, 25, 17, 115, 116, 117, 24, 118, 72, 73, 74, 119, 120, 121, 16, 122, 40, 44, 46, 123, 124, 125, 126, 47, 48, 49, 127, 128, 129, 39, 130, 54, 131, 55, 56, 132, 133, 134, 43, 135, 61, 136, 62, 184, 185, 186, 2, 187, 21, 143, 188, 189, 190, 191, 20, 192, 66, 193, 194, 195, 196, 197, 198, 199, 200, 201, 202, 203, 204, 205, 206, 207, 208, 209, 163, 164, 165, 210, 211, 212, 213, 214, 215, 216, 217, 218, 181, 182, 183, 741, 742, 743, 744, 745, 746, 765, 766, 767, 758, 759, 760, 761, 762, 763, 770, 771, 772, 773, 774, 764] (by decide +kernel) (by decide +kernel)
set_option maxRecDepth 20000 in
theorem gL_law_X6_moveWay : GoodIn wsL_law (wsV RL 112 RX6 yX6_moveWay wsX6_moveWay) := goodIn_app (goodIn_of _ (by decide +kernel)) ggL_law_X6_moveWay
set_option maxRecDepth 20000 in
theorem ggL_law_X7_moveWay : GoodIn wsL_law wsX7_moveWay := goodIn_r _ [341, 227, 235, 236, 237, 5, 238, 239, 87, 86, 268, 269, 270, 271, 272, 273, 274, 275, 90, 276, 277, 278, 279, 280, 281, 282, 283, 284, 285, 286, 287, 288, 289, 290, 291, 256, 257, 258, 259, 292, 293, 294, 295, 747, 748, 749, 750, 751, 752, 753, 754, 755, 756, 757] (by decide +kernel) (by decide +kernel)
set_option maxRecDepth 20000 in
theorem gL_law_X7_moveWay : GoodIn wsL_law (wsV RL 115 RX7 yX7_moveWay wsX7_moveWay) := goodIn_app (goodIn_of _ (by decide +kernel)) ggL_law_X7_moveWay
set_option maxRecDepth 20000 in
theorem ggL_law_L_giveWay : GoodIn wsL_law wsL_giveWay := goodIn_ca (goodIn_r _ [344, 96, 345, 346, 347, 2, 348, 25, 17, 143, 188, 105, 106, 107, 108, 109, 102, 103, 104, 115, 116, 117, 24, 118, 72, 73, 74, 119, 120, 121, 16, 122, 40, 44, 46, 123, 124, 125, 126, 47, 48, 49, 127, 128, 129, 39, 130, 54, 131, 55, 56, 132, 133, 134, 43, 135, 61, 136, 62, 741, 742, 743, 744, 745, 746, 758, 759, 760, 761, 762, 763, 770, 771, 772, 765, 766, 767, 773, 774] (by decide +kernel) (by decide +kernel)) (goodIn_sub (fun _ h => List.mem_append_left _ (List.mem_append_left _ (List.mem_append_right _ h))) (by decide +kernel))
set_option maxRecDepth 20000 in
theorem gL_law_L_giveWay : GoodIn wsL_law (va_wsS RL 116 yL_giveWay wsL_giveWay) := goodIn_app (goodIn_of _ (by decide +kernel)) ggL_law_L_giveWay
set_option maxRecDepth 20000 in
theorem ggL_law_X7_giveWay : GoodIn wsL_law wsX7_giveWay := goodIn_r _ [352, 227, 86, 228, 229, 5, 230, 231, 232, 233, 234, 235, 236, 237, 238, 239, 87, 747, 748, 749, 750, 751, 752, 753, 754, 755, 756, 757] (by decide +kernel) (by decide +kernel)
set_option maxRecDepth 20000 in
theorem gL_law_X7_giveWay : GoodIn wsL_law (wsV RL 118 RX7 yX7_giveWay wsX7_giveWay) := goodIn_app (goodIn_of _ (by decide +kernel)) ggL_law_X7_giveWay
set_option maxRecDepth 20000 in
theorem ggL_law_L_setLeast : GoodIn wsL_law wsL_setLeast := goodIn_ca (goodIn_ca (goodIn_r _ [355, 96, 97, 356, 357, 358, 2, 359, 25, 17, 360, 102, 103, 104, 105, 106, 107, 108, 109, 110, 111, 112, 113, 114, 115, 116, 117, 24, 118, 72, 73, 74, 119, 120, 121, 16, 122, 40, 44, 46, 123, 124, 125, 126, 47, 48, 49, 127, 128, 129, 39, 130, 54, 131, 55, 56, 132, 133, 134, 43, 135, 61, 136, 62, 741, 742, 743, 744, 745, 746, 758, 759, 760, 761, 762, 763, 765, 766, 767, 770, 771, 772, 773, 774] (by decide +kernel) (by decide +kernel)) (goodIn_sub (fun _ h => List.mem_append_left _ (List.mem_append_left _ (List.mem_append_right _ h))) (by decide +kernel))) (goodIn_sub (fun _ h => List.mem_append_left _ (List.mem_append_right _ h)) (by decide +kernel))
set_option maxRecDepth 20000 in
theorem gL_law_L_setLeast : GoodIn wsL_law (va_wsS RL 119 yL_setLeast wsL_setLeast) := goodIn_app (goodIn_of _ (by decide +kernel)) ggL_law_L_setLeast
set_option maxRecDepth 20000 in
theorem ggL_law_X7_setLeast : GoodIn wsL_law wsX7_setLeast := goodIn_r _ [364, 227, 86, 228, 229, 5, 230, 231, 232, 233, 234, 235, 236, 237, 238, 239, 87, 747, 748, 749, 750, 751, 752, 753, 754, 755, 756, 757] (by decide +kernel) (by decide +kernel)
set_option maxRecDepth 20000 in
theorem gL_law_X7_setLeast : GoodIn wsL_law (wsV RL 121 RX7 yX7_setLeast wsX7_setLeast) := goodIn_app (goodIn_of _ (by decide +kernel)) ggL_law_X7_setLeast
set_option maxRecDepth 20000 in
theorem ggL_law_L_setEpoch : GoodIn wsL_law wsL_setEpoch := goodIn_ca (goodIn_r _ [367, 97, 368, 369, 370, 2, 371, 25, 17, 145, 110, 111, 112, 113, 114, 115, 116, 117, 24, 118, 72, 73, 74, 119, 120, 121, 16, 122, 40, 44, 46, 123, 124, 125, 126, 47, 48, 49, 127, 128, 129, 39, 130, 54, 131, 55, 56, 132, 133, 134, 43, 135, 61, 136, 62, 741, 742, 743, 744, 745, 746, 758, 759, 760, 761, 762, 763, 765, 766, 767, 770, 771, 772, 773, 774] (by decide +kernel) (by decide +kernel)) (goodIn_sub (fun _ h => List.mem_append_left _ (List.mem_append_right _ h)) (by decide +kernel))
set_option maxRecDepth 20000 in
theorem gL_law_L_setEpoch : GoodIn wsL_law (va_wsS RL 122 yL_setEpoch wsL_setEpoch) := goodIn_app (goodIn_of _ (by decide +kernel)) ggL_law_L_setEpoch
set_option maxRecDepth 20000 in
theorem ggL_law_X7_setEpoch : GoodIn wsL_law wsX7_setEpoch := goodIn_r _ [375, 227, 86, 228, 229, 5, 230, 231, 232, 233, 234, 235, 236, 237, 238, 239, 87, 747, 748, 749, 750, 751, 752, 753, 754, 755, 756, 757] (by decide +kernel) (by decide +kernel)
set_option maxRecDepth 20000 in
theorem gL_law_X7_setEpoch : GoodIn wsL_law (wsV RL 124 RX7 yX7_setEpoch wsX7_setEpoch) := goodIn_app (goodIn_of _ (by decide +kernel)) ggL_law_X7_setEpoch
set_option maxRecDepth 20000 in
theorem ggL_law_X6_halveGains : GoodIn wsL_law wsX6_halveGains := goodIn_r _ [379, 25, 17, 141, 115, 116, 117, 24, 118, 72, 73, 74, 119, 120, 121, 16, 122, 40, 44, 46, 123, 124, 125, 126, 47, 48, 49, 127, 128, 129, 39, 130, 54, 131, 55, 56, 132, 133, 134, 43, 135, 61, 136, 62, 219, 220, 221, 222, 380, 381, 382, 383, 741, 742, 743, 744, 745, 746, 758, 759, 760, 761, 762, 763, 765, 766, 767, 770, 771, 772, 773, 774] (by decide +kernel) (by decide +kernel)
set_option maxRecDepth 20000 in
theorem gL_law_X6_halveGains : GoodIn wsL_law (wsV RL 125 RX6 yX6_halveGains wsX6_halveGains) := goodIn_app (goodIn_of _ (by decide +kernel)) ggL_law_X6_halveGains
set_option maxRecDepth 20000 in
theorem ggL_law_X7_halveGains : GoodIn wsL_law wsX7_halveGains := goodIn_r _ [387, 227, 235, 236, 237, 5, 238, 239, 87, 86, 296, 297, 298, 299, 747, 748, 749, 750, 751, 752, 753, 754, 755, 756, 757] (by decide +kernel) (by decide +kernel)
set_option maxRecDepth 20000 in
theorem gL_law_X7_halveGains : GoodIn wsL_law (wsV RL 128 RX7 yX7_halveGains wsX7_halveGains) := goodIn_app (goodIn_of _ (by decide +kernel)) ggL_law_X7_halveGains
set_option maxRecDepth 20000 in
theorem ggL_law_L_appendText : GoodIn wsL_law wsL_appendText := goodIn_ca (goodIn_ca (goodIn_r _ [390, 97, 391, 392, 393, 394, 2, 395, 396, 397, 29, 398, 110, 111, 112, 113, 114, 399, 400, 401, 28, 402, 81, 80, 741, 742, 743, 744, 745, 746, 768, 769] (by decide +kernel) (by decide +kernel)) (goodIn_sub (fun _ h => List.mem_append_right _ h) (by decide +kernel))) (goodIn_sub (fun _ h => List.mem_append_left _ (List.mem_append_right _ h)) (by decide +kernel))
set_option maxRecDepth 20000 in
theorem gL_law_L_appendText : GoodIn wsL_law (va_wsS RL 129 yL_appendText wsL_appendText) := goodIn_app (goodIn_of _ (by decide +kernel)) ggL_law_L_appendText
set_option maxRecDepth 20000 in
theorem ggL_law_X7_appendText : GoodIn wsL_law wsX7_appendText := goodIn_r _ [406, 227, 407, 91, 228, 229, 5, 230, 231, 232, 233, 234, 747, 748, 749, 750, 751, 752, 753, 754, 755, 756, 757] (by decide +kernel) (by decide +kernel)
set_option maxRecDepth 20000 in
theorem gL_law_X7_appendText : GoodIn wsL_law (wsV RL 131 RX7 yX7_appendText wsX7_appendText) := goodIn_app (goodIn_of _ (by decide +kernel)) ggL_law_X7_appendText
set_option maxRecDepth 20000 in
theorem ggL_law_X6_clearText : GoodIn wsL_law wsX6_clearText := goodIn_r _ [411, 29, 398, 741, 742, 743, 744, 745, 746, 768, 769] (by decide +kernel) (by decide +kernel)
set_option maxRecDepth 20000 in
theorem gL_law_X6_clearText : GoodIn wsL_law (wsV RL 132 RX6 yX6_clearText wsX6_clearText) := goodIn_app (goodIn_of _ (by decide +kernel)) ggL_law_X6_clearText
set_option maxRecDepth 20000 in
theorem ggL_law_X7_clearText : GoodIn wsL_law wsX7_clearText := goodIn_r _ [415, 227, 407, 747, 748, 749, 750, 751, 752, 753, 754, 755, 756, 757] (by decide +kernel) (by decide +kernel)
set_option maxRecDepth 20000 in
theorem gL_law_X7_clearText : GoodIn wsL_law (wsV RL 135 RX7 yX7_clearText wsX7_clearText) := goodIn_app (goodIn_of _ (by decide +kernel)) ggL_law_X7_clearText
set_option maxRecDepth 20000 in
theorem ggL_law_X6_errorPosition : GoodIn wsL_law wsX6_errorPosition := goodIn_r _ [419, 29, 420, 421, 422, 28, 423, 81, 424, 425, 426, 427, 80, 428, 429, 430, 431, 432, 433, 434, 435, 436, 437, 438, 439, 440, 441, 442, 741, 742, 743, 744, 745, 746, 768, 769] (by decide +kernel) (by decide +kernel)
set_option maxRecDepth 20000 in
theorem gL_law_X6_errorPosition : GoodIn wsL_law (wsV RL 136 RX6 yX6_errorPosition wsX6_errorPosition) := goodIn_app (goodIn_of _ (by decide +kernel)) ggL_law_X6_errorPosition
set_option maxRecDepth 20000 in
theorem ggL_law_X7_errorPosition : GoodIn wsL_law wsX7_errorPosition := goodIn_r _ [446, 227, 447, 448, 449, 450, 5, 451, 407, 452, 453, 454, 455, 91, 456, 457, 458, 459, 460, 461, 462, 463, 228, 229, 230, 464, 465, 466, 467, 468, 747, 748, 749, 750, 751, 752, 753, 754, 755, 756, 757] (by decide +kernel) (by decide +kernel)
set_option maxRecDepth 20000 in
theorem gL_law_X7_errorPosition : GoodIn wsL_law (wsV RL 139 RX7 yX7_errorPosition wsX7_errorPosition) := goodIn_app (goodIn_of _ (by decide +kernel)) ggL_law_X7_errorPosition
set_option maxRecDepth 20000 in
theorem ggL_law_L_runText : GoodIn wsL_law wsL_runText := goodIn_ca (goodIn_r _ [471, 391, 472, 473, 474, 2, 475, 396, 397, 29, 25, 17, 398, 420, 421, 422, 28, 423, 81, 424, 425, 426, 427, 80, 428, 429, 430, 431, 432, 433, 434, 435, 436, 437, 438, 439, 440, 441, 442, 115, 116, 117, 24, 118, 72, 73, 74, 119, 120, 121, 16, 122, 40, 44, 46, 123, 124, 125, 126, 47, 48, 49, 127, 128, 129, 39, 130, 54, 131, 55, 56, 132, 133, 134, 43, 135, 61, 136, 62, 476, 477, 478, 479, 480, 481, 482, 483, 141, 143, 484, 184, 185, 186, 187, 21, 188, 189, 190, 191, 20, 192, 66, 193, 194, 195, 196, 197, 198, 199, 200, 201, 202, 203, 204, 205, 206, 207, 208, 209, 163, 164, 165, 210, 211, 212, 213, 214, 215, 216, 217, 218, 181, 182, 183, 219, 220, 221, 222, 322, 323, 324, 325, 485, 486, 487, 488, 137, 138, 139, 140, 142, 144, 145, 146, 147, 148, 149, 150, 151, 152, 153, 154, 155, 156, 157, 158, 159, 160, 161, 162, 166, 167, 168, 169, 170, 171, 172, 173, 174, 175, 176, 177, 178, 179, 180, 741, 742, 743, 744, 745, 746, 768, 769, 765, 766, 767, 758, 759, 760, 761, 762, 763, 770, 771, 772, 773, 774, 764] (by decide +kernel) (by decide +kernel)) (goodIn_sub (fun _ h => List.mem_append_right _ h) (by decide +kernel))
set_option maxRecDepth 20000 in
theorem gL_law_L_runText : GoodIn wsL_law (va_wsS RL 140 yL_runText wsL_runText) := goodIn_app (goodIn_of _ (by decide +kernel)) ggL_law_L_runText
set_option maxRecDepth 20000 in
theorem ggL_law_X7_runText : GoodIn wsL_law wsX7_runText := goodIn_r _ [492, 227, 447, 407, 448, 449, 450, 5, 451, 452, 453, 454, 455, 91, 456, 457, 458, 459, 460, 461, 462, 463, 228, 229, 230, 464, 465, 466, 467, 468, 231, 232, 233, 234, 235, 236, 237, 238, 239, 87, 86, 493, 494, 495, 496, 268, 269, 270, 271, 272, 273, 274, 275, 90, 276, 277, 278, 279, 280, 281, 282, 283, 284, 285, 286, 287, 288, 289, 290, 291, 256, 257, 258, 259, 292, 293, 294, 295, 296, 297, 298, 299, 330, 331, 332, 333, 240, 241, 242, 243, 244, 245, 246, 247, 248, 249, 250, 251, 252, 253, 254, 255, 260, 261, 262, 263, 264, 265, 266, 267, 747, 748, 749, 750, 751, 752, 753, 754, 755, 756, 757] (by decide +kernel) (by decide +kernel)
set_option maxRecDepth 20000 in
theorem gL_law_X7_runText : GoodIn wsL_law (wsV RL 143 RX7 yX7_runText wsX7_runText) := goodIn_app (goodIn_of _ (by decide +kernel)) ggL_law_X7_runText
set_option maxRecDepth 20000 in
theorem ggL_law_L_undo : GoodIn wsL_law wsL_undo := goodIn_ca (goodIn_r _ [499, 391, 500, 501, 502, 2, 503, 396, 397, 25, 504, 17, 505, 506, 507, 24, 508, 74, 72, 73, 119, 120, 121, 16, 122, 40, 44, 46, 123, 124, 125, 126, 47, 48, 49, 127, 128, 129, 39, 130, 54, 131, 55, 56, 132, 133, 134, 43, 135, 61, 136, 62, 741, 742, 743, 744, 745, 746, 765, 766, 767, 758, 759, 760, 761, 762, 763, 770, 771, 772, 773, 774] (by decide +kernel) (by decide +kernel)) (goodIn_sub (fun _ h => List.mem_append_right _ h) (by decide +kernel))
set_option maxRecDepth 20000 in
theorem gL_law_L_undo : GoodIn wsL_law (va_wsS RL 144 yL_undo wsL_undo) := goodIn_app (goodIn_of _ (by decide +kernel)) ggL_law_L_undo
set_option maxRecDepth 20000 in
theorem ggL_law_X7_undo : GoodIn wsL_law wsX7_undo := goodIn_r _ [512, 227, 239, 86, 87, 231, 232, 233, 5, 234, 747, 748, 749, 750, 751, 752, 753, 754, 755, 756, 757] (by decide +kernel) (by decide +kernel)
set_option maxRecDepth 20000 in
theorem gL_law_X7_undo : GoodIn wsL_law (wsV RL 146 RX7 yX7_undo wsX7_undo) := goodIn_app (goodIn_of _ (by decide +kernel)) ggL_law_X7_undo
set_option maxRecDepth 20000 in
theorem ggL_law_L_save : GoodIn wsL_law wsL_save := goodIn_ca (goodIn_r _ [515, 96, 516, 517, 518, 2, 519, 30, 17, 32, 143, 105, 106, 107, 108, 109, 520, 120, 121, 16, 122, 40, 44, 46, 123, 124, 125, 126, 47, 48, 49, 127, 128, 129, 39, 130, 54, 131, 55, 56, 132, 133, 134, 43, 135, 61, 136, 62, 521, 522, 523, 524, 525, 526, 527, 528, 214, 215, 216, 217, 218, 181, 182, 183, 741, 742, 743, 744, 745, 746, 758, 759, 760, 761, 762, 763, 770, 771, 772, 773, 774] (by decide +kernel) (by decide +kernel)) (goodIn_sub (fun _ h => List.mem_append_left _ (List.mem_append_left _ (List.mem_append_right _ h))) (by decide +kernel))
set_option maxRecDepth 20000 in
theorem gL_law_L_save : GoodIn wsL_law (va_wsS RL 147 yL_save wsL_save) := goodIn_app (goodIn_of _ (by decide +kernel)) ggL_law_L_save
set_option maxRecDepth 20000 in
theorem ggL_law_X7_save : GoodIn wsL_law wsX7_save := goodIn_r _ [532, 227, 88, 86, 89, 228, 229, 5, 230, 231, 232, 233, 234, 533, 534, 535, 536, 537, 538, 539, 540, 747, 748, 749, 750, 751, 752, 753, 754, 755, 756, 757] (by decide +kernel) (by decide +kernel)
set_option maxRecDepth 20000 in
theorem gL_law_X7_save : GoodIn wsL_law (wsV RL 149 RX7 yX7_save wsX7_save) := goodIn_app (goodIn_of _ (by decide +kernel)) ggL_law_X7_save
set_option maxRecDepth 20000 in
theorem ggL_law_L_restore : GoodIn wsL_law wsL_restore := goodIn_ca (goodIn_ca (goodIn_r _ [543, 96, 391, 544, 545, 546, 2, 547, 396, 397, 32, 25, 17, 30, 143, 105, 106, 107, 108, 109, 115, 116, 117, 24, 118, 72, 73, 74, 119, 120, 121, 16, 122, 40, 44, 46, 123, 124, 125, 126, 47, 48, 49, 127, 128, 129, 39, 130, 54, 131, 55, 56, 132, 133, 134, 43, 135, 61, 136, 62, 520, 521, 522, 523, 524, 525, 526, 527, 528, 214, 215, 216, 217, 218, 181, 182, 183, 741, 742, 743, 744, 745, 746, 758, 759, 760, 761, 762, 763, 765, 766, 767, 770, 771, 772, 773, 774] (by decide +kernel) (by decide +kernel)) (goodIn_sub (fun _ h => List.mem_append_right _ h) (by decide +kernel))) (goodIn_sub (fun _ h => List.mem_append_left _ (List.mem_append_left _ (List.mem_append_right _ h))) (by decide +kernel))
set_option maxRecDepth 20000 in
theorem gL_law_L_restore : GoodIn wsL_law (va_wsS RL 150 yL_restore wsL_restore) := goodIn_app (goodIn_of _ (by decide +kernel)) ggL_law_L_restore
set_option maxRecDepth 20000 in
theorem ggL_law_X7_restore : GoodIn wsL_law wsX7_restore := goodIn_r _ [551, 227, 89, 86, 88, 228, 229, 5, 230, 231, 232, 233, 234, 235, 236, 237, 238, 239, 87, 533, 534, 535, 536, 537, 538, 539, 540, 747, 748, 749, 750, 751, 752, 753, 754, 755, 756, 757] (by decide +kernel) (by decide +kernel)
set_option maxRecDepth 20000 in
theorem gL_law_X7_restore : GoodIn wsL_law (wsV RL 152 RX7 yX7_restore wsX7_restore) := goodIn_app (goodIn_of _ (by decide +kernel)) ggL_law_X7_restore
set_option maxRecDepth 20000 in
theorem ggL_law_L_owner : GoodIn wsL_law wsL_owner := goodIn_ca (goodIn_r _ [554, 96, 555, 556, 557, 2, 558, 17, 143, 188, 105, 106, 107, 108, 109, 741, 742, 743, 744, 745, 746, 758, 759, 760, 761, 762, 763, 770, 771, 772] (by decide +kernel) (by decide +kernel)) (goodIn_sub (fun _ h => List.mem_append_left _ (List.mem_append_left _ (List.mem_append_right _ h))) (by decide +kernel))
set_option maxRecDepth 20000 in
theorem gL_law_L_owner : GoodIn wsL_law (va_wsS RL 153 yL_owner wsL_owner) := goodIn_app (goodIn_of _ (by decide +kernel)) ggL_law_L_owner
set_option maxRecDepth 20000 in
theorem ggL_law_X7_owner : GoodIn wsL_law wsX7_owner := goodIn_r _ [562, 227, 86, 228, 229, 5, 230, 231, 232, 233, 234, 747, 748, 749, 750, 751, 752, 753, 754, 755, 756, 757] (by decide +kernel) (by decide +kernel)
set_option maxRecDepth 20000 in
theorem gL_law_X7_owner : GoodIn wsL_law (wsV RL 155 RX7 yX7_owner wsX7_owner) := goodIn_app (goodIn_of _ (by decide +kernel)) ggL_law_X7_owner
set_option maxRecDepth 20000 in
theorem ggL_law_L_waysOf : GoodIn wsL_law wsL_waysOf := goodIn_ca (goodIn_r _ [565, 96, 566, 567, 568, 2, 569, 17, 143, 102, 103, 104, 105, 106, 107, 108, 109, 209, 163, 164, 39, 165, 54, 741, 742, 743, 744, 745, 746, 758, 759, 760, 761, 762, 763, 770, 771, 772] (by decide +kernel) (by decide +kernel)) (goodIn_sub (fun _ h => List.mem_append_left _ (List.mem_append_left _ (List.mem_append_right _ h))) (by decide +kernel))
set_option maxRecDepth 20000 in
theorem gL_law_L_waysOf : GoodIn wsL_law (va_wsS RL 156 yL_waysOf wsL_waysOf) := goodIn_app (goodIn_of _ (by decide +kernel)) ggL_law_L_waysOf
set_option maxRecDepth 20000 in
theorem ggL_law_X7_waysOf : GoodIn wsL_law wsX7_waysOf := goodIn_r _ [573, 227, 228, 229, 5, 230, 256, 257, 258, 259, 86, 231, 232, 233, 234, 747, 748, 749, 750, 751, 752, 753, 754, 755, 756, 757] (by decide +kernel) (by decide +kernel)
set_option maxRecDepth 20000 in
theorem gL_law_X7_waysOf : GoodIn wsL_law (wsV RL 158 RX7 yX7_waysOf wsX7_waysOf) := goodIn_app (goodIn_of _ (by decide +kernel)) ggL_law_X7_waysOf
set_option maxRecDepth 20000 in
theorem ggL_law_L_line : GoodIn wsL_law wsL_line := goodIn_ca (goodIn_r _ [576, 96, 577, 578, 579, 2, 580, 17, 143, 174, 105, 106, 107, 108, 109, 741, 742, 743, 744, 745, 746, 758, 759, 760, 761, 762, 763, 770, 771, 772] (by decide +kernel) (by decide +kernel)) (goodIn_sub (fun _ h => List.mem_append_left _ (List.mem_append_left _ (List.mem_append_right _ h))) (by decide +kernel))
set_option maxRecDepth 20000 in
theorem gL_law_L_line : GoodIn wsL_law (va_wsS RL 159 yL_line wsL_line) := goodIn_app (goodIn_of _ (by decide +kernel)) ggL_law_L_line
set_option maxRecDepth 20000 in
theorem ggL_law_X7_line : GoodIn wsL_law wsX7_line := goodIn_r _ [584, 227, 86, 228, 229, 5, 230, 231, 232, 233, 234, 747, 748, 749, 750, 751, 752, 753, 754, 755, 756, 757] (by decide +kernel) (by decide +kernel)
set_option maxRecDepth 20000 in
theorem gL_law_X7_line : GoodIn wsL_law (wsV RL 161 RX7 yX7_line wsX7_line) := goodIn_app (goodIn_of _ (by decide +kernel)) ggL_law_X7_line
set_option maxRecDepth 20000 in
theorem ggL_law_L_lines : GoodIn wsL_law wsL_lines := goodIn_ca (goodIn_r _ [587, 96, 588, 589, 590, 2, 591, 17, 143, 102, 103, 104, 105, 106, 107, 108, 109, 592, 593, 594, 39, 595, 54, 214, 215, 216, 217, 218, 181, 182, 183, 55, 596, 526, 527, 528, 741, 742, 743, 744, 745, 746, 758, 759, 760, 761, 762, 763, 770, 771, 772] (by decide +kernel) (by decide +kernel)) (goodIn_sub (fun _ h => List.mem_append_left _ (List.mem_append_left _ (List.mem_append_right _ h))) (by decide +kernel))
set_option maxRecDepth 20000 in
theorem gL_law_L_lines : GoodIn wsL_law (va_wsS RL 162 yL_lines wsL_lines) := goodIn_app (goodIn_of _ (by decide +kernel)) ggL_law_L_lines
set_option maxRecDepth 20000 in
theorem ggL_law_X7_lines : GoodIn wsL_law wsX7_lines := goodIn_r _ [600, 227, 228, 229, 5, 230, 537, 538, 539, 540, 86, 231, 232, 233, 234, 747, 748, 749, 750, 751, 752, 753, 754, 755, 756, 757] (by decide +kernel) (by decide +kernel)
set_option maxRecDepth 20000 in
theorem gL_law_X7_lines : GoodIn wsL_law (wsV RL 165 RX7 yX7_lines wsX7_lines) := goodIn_app (goodIn_of _ (by decide +kernel)) ggL_law_X7_lines
set_option maxRecDepth 20000 in
theorem ggL_law_L_ifAccessed : GoodIn wsL_law wsL_ifAccessed := goodIn_ca (goodIn_ca (goodIn_r _ [603, 96, 97, 604, 605, 606, 2, 607, 17, 143, 102, 103, 104, 105, 106, 107, 108, 109, 110, 111, 112, 113, 114, 154, 155, 156, 39, 157, 158, 159, 160, 161, 55, 162, 163, 164, 165, 54, 741, 742, 743, 744, 745, 746, 758, 759, 760, 761, 762, 763, 770, 771, 772] (by decide +kernel) (by decide +kernel)) (goodIn_sub (fun _ h => List.mem_append_left _ (List.mem_append_left _ (List.mem_append_right _ h))) (by decide +kernel))) (goodIn_sub (fun _ h => List.mem_append_left _ (List.mem_append_right _ h)) (by decide +kernel))
set_option maxRecDepth 20000 in
theorem gL_law_L_ifAccessed : GoodIn wsL_law (va_wsS RL 166 yL_ifAccessed wsL_ifAccessed) := goodIn_app (goodIn_of _ (by decide +kernel)) ggL_law_L_ifAccessed
set_option maxRecDepth 20000 in
theorem ggL_law_X7_ifAccessed : GoodIn wsL_law wsX7_ifAccessed := goodIn_r _ [611, 227, 228, 229, 5, 230, 231, 232, 233, 234, 248, 249, 250, 251, 252, 253, 254, 255, 86, 256, 257, 258, 259, 747, 748, 749, 750, 751, 752, 753, 754, 755, 756, 757] (by decide +kernel) (by decide +kernel)
set_option maxRecDepth 20000 in
theorem gL_law_X7_ifAccessed : GoodIn wsL_law (wsV RL 168 RX7 yX7_ifAccessed wsX7_ifAccessed) := goodIn_app (goodIn_of _ (by decide +kernel)) ggL_law_X7_ifAccessed
set_option maxRecDepth 20000 in
theorem ggL_law_L_victim : GoodIn wsL_law wsL_victim := goodIn_ca (goodIn_ca (goodIn_r _ [614, 96, 97, 615, 616, 617, 2, 618, 17, 143, 174, 102, 103, 104, 105, 106, 107, 108, 109, 110, 111, 112, 113, 114, 154, 155, 156, 39, 157, 158, 159, 160, 161, 55, 162, 163, 164, 165, 54, 176, 177, 178, 179, 56, 741, 742, 743, 744, 745, 746, 758, 759, 760, 761, 762, 763, 770, 771, 772] (by decide +kernel) (by decide +kernel)) (goodIn_sub (fun _ h => List.mem_append_left _ (List.mem_append_left _ (List.mem_append_right _ h))) (by decide +kernel))) (goodIn_sub (fun _ h => List.mem_append_left _ (List.mem_append_right _ h)) (by decide +kernel))
set_option maxRecDepth 20000 in
theorem gL_law_L_victim : GoodIn wsL_law (va_wsS RL 169 yL_victim wsL_victim) := goodIn_app (goodIn_of _ (by decide +kernel)) ggL_law_L_victim
set_option maxRecDepth 20000 in
theorem ggL_law_X7_victim : GoodIn wsL_law wsX7_victim := goodIn_r _ [622, 227, 86, 228, 229, 5, 230, 231, 232, 233, 234, 248, 249, 250, 251, 252, 253, 254, 255, 256, 257, 258, 259, 264, 265, 266, 267, 747, 748, 749, 750, 751, 752, 753, 754, 755, 756, 757] (by decide +kernel) (by decide +kernel)
set_option maxRecDepth 20000 in
theorem gL_law_X7_victim : GoodIn wsL_law (wsV RL 171 RX7 yX7_victim wsX7_victim) := goodIn_app (goodIn_of _ (by decide +kernel)) ggL_law_X7_victim
set_option maxRecDepth 20000 in
theorem ggL_law_L_gain : GoodIn wsL_law wsL_gain := goodIn_ca (goodIn_r _ [625, 96, 626, 627, 628, 2, 629, 17, 141, 630, 102, 103, 104, 105, 106, 107, 108, 109, 741, 742, 743, 744, 745, 746, 758, 759, 760, 761, 762, 763, 773, 774] (by decide +kernel) (by decide +kernel)) (goodIn_sub (fun _ h => List.mem_append_left _ (List.mem_append_left _ (List.mem_append_right _ h))) (by decide +kernel))
set_option maxRecDepth 20000 in
theorem gL_law_L_gain : GoodIn wsL_law (va_wsS RL 172 yL_gain wsL_gain) := goodIn_app (goodIn_of _ (by decide +kernel)) ggL_law_L_gain
set_option maxRecDepth 20000 in
theorem ggL_law_X7_gain : GoodIn wsL_law wsX7_gain := goodIn_r _ [634, 227, 86, 228, 229, 5, 230, 231, 232, 233, 234, 747, 748, 749, 750, 751, 752, 753, 754, 755, 756, 757] (by decide +kernel) (by decide +kernel)
set_option maxRecDepth 20000 in
theorem gL_law_X7_gain : GoodIn wsL_law (wsV RL 174 RX7 yX7_gain wsX7_gain) := goodIn_app (goodIn_of _ (by decide +kernel)) ggL_law_X7_gain
set_option maxRecDepth 20000 in
theorem ggL_law_L_utility : GoodIn wsL_law wsL_utility := goodIn_ca (goodIn_ca (goodIn_r _ [637, 96, 97, 638, 639, 640, 2, 641, 17, 141, 102, 103, 104, 105, 106, 107, 108, 109, 110, 111, 112, 113, 114, 642, 643, 644, 43, 645, 62, 741, 742, 743, 744, 745, 746, 758, 759, 760, 761, 762, 763, 773, 774] (by decide +kernel) (by decide +kernel)) (goodIn_sub (fun _ h => List.mem_append_left _ (List.mem_append_left _ (List.mem_append_right _ h))) (by decide +kernel))) (goodIn_sub (fun _ h => List.mem_append_left _ (List.mem_append_right _ h)) (by decide +kernel))
set_option maxRecDepth 20000 in
theorem gL_law_L_utility : GoodIn wsL_law (va_wsS RL 175 yL_utility wsL_utility) := goodIn_app (goodIn_of _ (by decide +kernel)) ggL_law_L_utility
set_option maxRecDepth 20000 in
theorem ggL_law_X7_utility : GoodIn wsL_law wsX7_utility := goodIn_r _ [649, 227, 228, 229, 5, 230, 231, 232, 233, 234, 280, 281, 282, 283, 86, 747, 748, 749, 750, 751, 752, 753, 754, 755, 756, 757] (by decide +kernel) (by decide +kernel)
set_option maxRecDepth 20000 in
theorem gL_law_X7_utility : GoodIn wsL_law (wsV RL 177 RX7 yX7_utility wsX7_utility) := goodIn_app (goodIn_of _ (by decide +kernel)) ggL_law_X7_utility
set_option maxRecDepth 20000 in
theorem ggL_law_L_monitored : GoodIn wsL_law wsL_monitored := goodIn_ca (goodIn_r _ [652, 96, 653, 654, 655, 2, 656, 108, 109, 17, 141, 657, 102, 103, 104, 105, 106, 107, 658, 150, 151, 659, 152, 153, 741, 742, 743, 744, 745, 746, 758, 759, 760, 761, 762, 763, 773, 774] (by decide +kernel) (by decide +kernel)) (goodIn_sub (fun _ h => List.mem_append_left _ (List.mem_append_left _ (List.mem_append_right _ h))) (by decide +kernel))
set_option maxRecDepth 20000 in
theorem gL_law_L_monitored : GoodIn wsL_law (va_wsS RL 178 yL_monitored wsL_monitored) := goodIn_app (goodIn_of _ (by decide +kernel)) ggL_law_L_monitored
set_option maxRecDepth 20000 in
theorem ggL_law_X7_monitored : GoodIn wsL_law wsX7_monitored := goodIn_r _ [663, 227, 86, 228, 229, 5, 230, 231, 232, 233, 234, 747, 748, 749, 750, 751, 752, 753, 754, 755, 756, 757] (by decide +kernel) (by decide +kernel)
set_option maxRecDepth 20000 in
theorem gL_law_X7_monitored : GoodIn wsL_law (wsV RL 181 RX7 yX7_monitored wsX7_monitored) := goodIn_app (goodIn_of _ (by decide +kernel)) ggL_law_X7_monitored
set_option maxRecDepth 20000 in
theorem ggL_law_L_target : GoodIn wsL_law wsL_target := goodIn_ca (goodIn_r _ [666, 96, 667, 668, 669, 2, 670, 21, 17, 208, 102, 103, 104, 105, 106, 107, 108, 109, 189, 190, 191, 20, 192, 66, 193, 194, 195, 196, 197, 198, 199, 200, 201, 202, 203, 741, 742, 743, 744, 745, 746, 764, 758, 759, 760, 761, 762, 763, 773, 774] (by decide +kernel) (by decide +kernel)) (goodIn_sub (fun _ h => List.mem_append_left _ (List.mem_append_left _ (List.mem_append_right _ h))) (by decide +kernel))
set_option maxRecDepth 20000 in
theorem gL_law_L_target : GoodIn wsL_law (va_wsS RL 182 yL_target wsL_target) := goodIn_app (goodIn_of _ (by decide +kernel)) ggL_law_L_target
set_option maxRecDepth 20000 in
theorem ggL_law_X7_target : GoodIn wsL_law wsX7_target := goodIn_r _ [674, 227, 90, 272, 273, 274, 5, 275, 86, 276, 277, 278, 279, 280, 281, 282, 283, 284, 285, 286, 287, 228, 229, 230, 231, 232, 233, 234, 747, 748, 749, 750, 751, 752, 753, 754, 755, 756, 757] (by decide +kernel) (by decide +kernel)
set_option maxRecDepth 20000 in
theorem gL_law_X7_target : GoodIn wsL_law (wsV RL 184 RX7 yX7_target wsX7_target) := goodIn_app (goodIn_of _ (by decide +kernel)) ggL_law_X7_target
set_option maxRecDepth 20000 in
theorem ggL_law_X6_movesLeft : GoodIn wsL_law wsX6_movesLeft := goodIn_r _ [678, 21, 17, 679, 680, 681, 682, 189, 190, 191, 20, 192, 66, 193, 194, 195, 196, 197, 198, 199, 200, 201, 202, 203, 204, 205, 206, 2, 207, 208, 143, 209, 163, 164, 39, 165, 54, 741, 742, 743, 744, 745, 746, 764, 758, 759, 760, 761, 762, 763, 773, 774, 770, 771, 772] (by decide +kernel) (by decide +kernel)
set_option maxRecDepth 20000 in
theorem gL_law_X6_movesLeft : GoodIn wsL_law (wsV RL 185 RX6 yX6_movesLeft wsX6_movesLeft) := goodIn_app (goodIn_of _ (by decide +kernel)) ggL_law_X6_movesLeft
set_option maxRecDepth 20000 in
theorem ggL_law_X7_movesLeft : GoodIn wsL_law wsX7_movesLeft := goodIn_r _ [686, 227, 272, 273, 274, 5, 275, 90, 86, 276, 277, 278, 279, 280, 281, 282, 283, 284, 285, 286, 287, 288, 289, 290, 291, 256, 257, 258, 259, 747, 748, 749, 750, 751, 752, 753, 754, 755, 756, 757] (by decide +kernel) (by decide +kernel)
set_option maxRecDepth 20000 in
theorem gL_law_X7_movesLeft : GoodIn wsL_law (wsV RL 188 RX7 yX7_movesLeft wsX7_movesLeft) := goodIn_app (goodIn_of _ (by decide +kernel)) ggL_law_X7_movesLeft
set_option maxRecDepth 20000 in
theorem ggL_law_X6_totalUtility : GoodIn wsL_law wsX6_totalUtility := goodIn_r _ [690, 17, 141, 143, 209, 163, 164, 39, 165, 54, 642, 643, 644, 43, 645, 62, 741, 742, 743, 744, 745, 746, 758, 759, 760, 761, 762, 763, 770, 771, 772, 773, 774] (by decide +kernel) (by decide +kernel)
set_option maxRecDepth 20000 in
theorem gL_law_X6_totalUtility : GoodIn wsL_law (wsV RL 189 RX6 yX6_totalUtility wsX6_totalUtility) := goodIn_app (goodIn_of _ (by decide +kernel)) ggL_law_X6_totalUtility
set_option maxRecDepth 20000 in
theorem ggL_law_X7_totalUtility : GoodIn wsL_law wsX7_totalUtility := goodIn_r _ [694, 227, 256, 257, 258, 5, 259, 86, 280, 281, 282, 283, 747, 748, 749, 750, 751, 752, 753, 754, 755, 756, 757] (by decide +kernel) (by decide +kernel)
set_option maxRecDepth 20000 in
theorem gL_law_X7_totalUtility : GoodIn wsL_law (wsV RL 192 RX7 yX7_totalUtility wsX7_totalUtility) := goodIn_app (goodIn_of _ (by decide +kernel)) ggL_law_X7_totalUtility
set_option maxRecDepth 20000 in
theorem ggL_law_L_count : GoodIn wsL_law wsL_count := goodIn_ca (goodIn_ca (goodIn_r _ [697, 96, 97, 698, 699, 700, 2, 701, 17, 144, 102, 103, 104, 105, 106, 107, 108, 109, 110, 111, 112, 113, 114, 741, 742, 743, 744, 745, 746, 758, 759, 760, 761, 762, 763] (by decide +kernel) (by decide +kernel)) (goodIn_sub (fun _ h => List.mem_append_left _ (List.mem_append_left _ (List.mem_append_right _ h))) (by decide +kernel))) (goodIn_sub (fun _ h => List.mem_append_left _ (List.mem_append_right _ h)) (by decide +kernel))
set_option maxRecDepth 20000 in
theorem gL_law_L_count : GoodIn wsL_law (va_wsS RL 193 yL_count wsL_count) := goodIn_app (goodIn_of _ (by decide +kernel)) ggL_law_L_count
set_option maxRecDepth 20000 in
theorem ggL_law_X7_count : GoodIn wsL_law wsX7_count := goodIn_r _ [705, 227, 86, 228, 229, 5, 230, 231, 232, 233, 234, 747, 748, 749, 750, 751, 752, 753, 754, 755, 756, 757] (by decide +kernel) (by decide +kernel)
set_option maxRecDepth 20000 in
theorem gL_law_X7_count : GoodIn wsL_law (wsV RL 195 RX7 yX7_count wsX7_count) := goodIn_app (goodIn_of _ (by decide +kernel)) ggL_law_X7_count
set_option maxRecDepth 20000 in
theorem ggL_law_X6_accesses : GoodIn wsL_law wsX6_accesses := goodIn_r _ [709, 17, 142, 741, 742, 743, 744, 745, 746, 758, 759, 760, 761, 762, 763] (by decide +kernel) (by decide +kernel)
set_option maxRecDepth 20000 in
theorem gL_law_X6_accesses : GoodIn wsL_law (wsV RL 196 RX6 yX6_accesses wsX6_accesses) := goodIn_app (goodIn_of _ (by decide +kernel)) ggL_law_X6_accesses
set_option maxRecDepth 20000 in
theorem ggL_law_X7_accesses : GoodIn wsL_law wsX7_accesses := goodIn_r _ [713, 227, 86, 747, 748, 749, 750, 751, 752, 753, 754, 755, 756, 757] (by decide +kernel) (by decide +kernel)
set_option maxRecDepth 20000 in
theorem gL_law_X7_accesses : GoodIn wsL_law (wsV RL 199 RX7 yX7_accesses wsX7_accesses) := goodIn_app (goodIn_of _ (by decide +kernel)) ggL_law_X7_accesses
set_option maxRecDepth 20000 in
theorem ggL_law_L_hitRate : GoodIn wsL_law wsL_hitRate := goodIn_ca (goodIn_r _ [716, 96, 717, 718, 719, 2, 720, 17, 144, 102, 103, 104, 105, 106, 107, 108, 109, 741, 742, 743, 744, 745, 746, 758, 759, 760, 761, 762, 763] (by decide +kernel) (by decide +kernel)) (goodIn_sub (fun _ h => List.mem_append_left _ (List.mem_append_left _ (List.mem_append_right _ h))) (by decide +kernel))
set_option maxRecDepth 20000 in
theorem gL_law_L_hitRate : GoodIn wsL_law (va_wsS RL 200 yL_hitRate wsL_hitRate) := goodIn_app (goodIn_of _ (by decide +kernel)) ggL_law_L_hitRate
set_option maxRecDepth 20000 in
theorem ggL_law_X7_hitRate : GoodIn wsL_law wsX7_hitRate := goodIn_r _ [724, 227, 86, 228, 229, 5, 230, 231, 232, 233, 234, 747, 748, 749, 750, 751, 752, 753, 754, 755, 756, 757] (by decide +kernel) (by decide +kernel)
set_option maxRecDepth 20000 in
theorem gL_law_X7_hitRate : GoodIn wsL_law (wsV RL 203 RX7 yX7_hitRate wsX7_hitRate) := goodIn_app (goodIn_of _ (by decide +kernel)) ggL_law_X7_hitRate
set_option maxRecDepth 20000 in
theorem ggL_law_X6_savedStates : GoodIn wsL_law wsX6_savedStates := goodIn_r _ [728, 25, 504, 741, 742, 743, 744, 745, 746, 765, 766, 767] (by decide +kernel) (by decide +kernel)
set_option maxRecDepth 20000 in
theorem gL_law_X6_savedStates : GoodIn wsL_law (wsV RL 204 RX6 yX6_savedStates wsX6_savedStates) := goodIn_app (goodIn_of _ (by decide +kernel)) ggL_law_X6_savedStates
set_option maxRecDepth 20000 in
theorem ggL_law_X7_savedStates : GoodIn wsL_law wsX7_savedStates := goodIn_r _ [732, 227, 239, 747, 748, 749, 750, 751, 752, 753, 754, 755, 756, 757] (by decide +kernel) (by decide +kernel)
set_option maxRecDepth 20000 in
theorem gL_law_X7_savedStates : GoodIn wsL_law (wsV RL 207 RX7 yX7_savedStates wsX7_savedStates) := goodIn_app (goodIn_of _ (by decide +kernel)) ggL_law_X7_savedStates
set_option maxRecDepth 20000 in
theorem ggL_law_X6_textLength : GoodIn wsL_law wsX6_textLength := goodIn_r _ [736, 29, 398, 741, 742, 743, 744, 745, 746, 768, 769] (by decide +kernel) (by decide +kernel)
set_option maxRecDepth 20000 in
theorem gL_law_X6_textLength : GoodIn wsL_law (wsV RL 208 RX6 yX6_textLength wsX6_textLength) := goodIn_app (goodIn_of _ (by decide +kernel)) ggL_law_X6_textLength
set_option maxRecDepth 20000 in
theorem ggL_law_X7_textLength : GoodIn wsL_law wsX7_textLength := goodIn_r _ [740, 227, 407, 747, 748, 749, 750, 751, 752, 753, 754, 755, 756, 757] (by decide +kernel) (by decide +kernel)
set_option maxRecDepth 20000 in
theorem gL_law_X7_textLength : GoodIn wsL_law (wsV RL 211 RX7 yX7_textLength wsX7_textLength) := goodIn_app (goodIn_of _ (by decide +kernel)) ggL_law_X7_textLength
