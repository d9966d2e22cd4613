set_option maxRecDepth 20000 in
theorem ggL_find_X6_line : GoodIn wsL_find wsX6_line := goodIn_ca (goodIn_r _ [5, 6, 7, 8, 9, 10, 4, 11, 12, 13, 14, 15, 16, 17, 18, 19, 20, 21, 22, 23, 24, 25, 26, 27, 28] (by decide +kernel) (by decide +kernel)) (goodIn_sub (fun _ h => List.mem_cons_of_mem _ (List.mem_append_right _ h)) (by decide +kernel))
set_option maxRecDepth 20000 in
theorem gL_find_X6_line : GoodIn wsL_find (wsV RL 9 RX6 yX6_line wsX6_line) := goodIn_app (goodIn_of _ (by decide +kernel)) ggL_find_X6_line
set_option maxRecDepth 20000 in
theorem ggL_all_X6_lines : GoodIn wsL_all wsX6_lines := goodIn_ca (goodIn_r _ [5, 6, 7, 8, 9, 4, 10, 11, 12, 13, 14, 15, 16, 17, 18, 19, 20, 21, 22, 23, 24, 25, 26, 27, 28, 29, 30, 31, 32, 33, 34, 35, 36, 37, 38, 39, 40, 41, 42, 43, 44, 45, 46, 47, 48, 49] (by decide +kernel) (by decide +kernel)) (goodIn_sub (fun _ h => List.mem_cons_of_mem _ (List.mem_append_right _ h)) (by decide +kernel))
set_option maxRecDepth 20000 in
theorem gL_all_X6_lines : GoodIn wsL_all (wsV RL 15 RX6 yX6_lines wsX6_lines) := goodIn_app (goodIn_of _ (by decide +kernel)) ggL_all_X6_lines
set_option maxRecDepth 20000 in
theorem ggL_fits_X6_owner : GoodIn wsL_fits wsX6_owner := goodIn_ca (goodIn_r _ [6, 7, 8, 9, 10, 11, 5, 12, 13, 14, 140, 141, 142, 143, 144, 145, 146, 147, 148, 149, 150, 151, 152, 153, 154] (by decide +kernel) (by decide +kernel)) (goodIn_sub (fun _ h => List.mem_cons_of_mem _ (List.mem_append_left _ (List.mem_append_right _ h))) (by decide +kernel))
set_option maxRecDepth 20000 in
theorem gL_fits_X6_owner : GoodIn wsL_fits (wsV RL 19 RX6 yX6_owner wsX6_owner) := goodIn_app (goodIn_of _ (by decide +kernel)) ggL_fits_X6_owner
set_option maxRecDepth 20000 in
theorem ggL_fits_X6_line : GoodIn wsL_fits wsX6_line := goodIn_ca (goodIn_r _ [18, 7, 8, 19, 10, 11, 5, 12, 13, 14, 140, 141, 142, 143, 144, 145, 146, 147, 148, 149, 150, 151, 152, 153, 154] (by decide +kernel) (by decide +kernel)) (goodIn_sub (fun _ h => List.mem_cons_of_mem _ (List.mem_append_left _ (List.mem_append_right _ h))) (by decide +kernel))
set_option maxRecDepth 20000 in
theorem gL_fits_X6_line : GoodIn wsL_fits (wsV RL 9 RX6 yX6_line wsX6_line) := goodIn_app (goodIn_of _ (by decide +kernel)) ggL_fits_X6_line
set_option maxRecDepth 20000 in
theorem ggL_fits_L_find : GoodIn wsL_fits wsL_find := goodIn_ca (goodIn_r _ [23, 15, 16, 17, 5, 18, 7, 8, 19, 10, 11, 12, 13, 14, 140, 141, 142, 143, 144, 145, 146, 147, 148, 149, 150, 151, 152, 153, 154] (by decide +kernel) (by decide +kernel)) (goodIn_sub (fun _ h => List.mem_cons_of_mem _ (List.mem_append_left _ (List.mem_append_right _ h))) (by decide +kernel))
set_option maxRecDepth 20000 in
theorem gL_fits_L_find : GoodIn wsL_fits (va_wsS RL 23 yL_find wsL_find) := goodIn_app (goodIn_of _ (by decide +kernel)) ggL_fits_L_find
set_option maxRecDepth 20000 in
theorem ggL_fits_X6_ifAccessed : GoodIn wsL_fits wsX6_ifAccessed := goodIn_ca (goodIn_ca (goodIn_r _ [27, 7, 8, 28, 29, 5, 30, 10, 11, 12, 13, 14, 31, 32, 33, 34, 35, 36, 37, 38, 39, 40, 41, 42, 43, 44, 45, 46, 47, 48, 49, 50, 140, 141, 142, 143, 144, 145, 146, 147, 148, 149, 150, 151, 152, 153, 154] (by decide +kernel) (by decide +kernel)) (goodIn_sub (fun _ h => List.mem_cons_of_mem _ (List.mem_append_left _ (List.mem_append_right _ h))) (by decide +kernel))) (goodIn_sub (fun _ h => List.mem_cons_of_mem _ (List.mem_append_right _ h)) (by decide +kernel))
set_option maxRecDepth 20000 in
theorem gL_fits_X6_ifAccessed : GoodIn wsL_fits (wsV RL 29 RX6 yX6_ifAccessed wsX6_ifAccessed) := goodIn_app (goodIn_of _ (by decide +kernel)) ggL_fits_X6_ifAccessed
set_option maxRecDepth 20000 in
theorem ggL_fits_X6_target : GoodIn wsL_fits wsX6_target := goodIn_ca (goodIn_r _ [54, 55, 7, 56, 28, 29, 5, 30, 10, 11, 12, 13, 14, 57, 58, 59, 60, 61, 62, 63, 64, 65, 66, 67, 68, 69, 70, 71, 72, 73, 140, 141, 142, 143, 144, 145, 155, 146, 147, 148, 149, 150, 151, 156, 157] (by decide +kernel) (by decide +kernel)) (goodIn_sub (fun _ h => List.mem_cons_of_mem _ (List.mem_append_left _ (List.mem_append_right _ h))) (by decide +kernel))
set_option maxRecDepth 20000 in
theorem gL_fits_X6_target : GoodIn wsL_fits (wsV RL 32 RX6 yX6_target wsX6_target) := goodIn_app (goodIn_of _ (by decide +kernel)) ggL_fits_X6_target
set_option maxRecDepth 20000 in
theorem ggL_fits_X6_count : GoodIn wsL_fits wsX6_count := goodIn_ca (goodIn_ca (goodIn_r _ [77, 7, 78, 28, 29, 5, 30, 10, 11, 12, 13, 14, 31, 32, 33, 34, 35, 140, 141, 142, 143, 144, 145, 146, 147, 148, 149, 150, 151] (by decide +kernel) (by decide +kernel)) (goodIn_sub (fun _ h => List.mem_cons_of_mem _ (List.mem_append_left _ (List.mem_append_right _ h))) (by decide +kernel))) (goodIn_sub (fun _ h => List.mem_cons_of_mem _ (List.mem_append_right _ h)) (by decide +kernel))
set_option maxRecDepth 20000 in
theorem gL_fits_X6_count : GoodIn wsL_fits (wsV RL 35 RX6 yX6_count wsX6_count) := goodIn_app (goodIn_of _ (by decide +kernel)) ggL_fits_X6_count
set_option maxRecDepth 20000 in
theorem ggL_fits_X6_waysOf : GoodIn wsL_fits wsX6_waysOf := goodIn_ca (goodIn_r _ [82, 7, 8, 28, 29, 5, 30, 10, 11, 12, 13, 14, 83, 47, 48, 39, 49, 50, 140, 141, 142, 143, 144, 145, 146, 147, 148, 149, 150, 151, 152, 153, 154] (by decide +kernel) (by decide +kernel)) (goodIn_sub (fun _ h => List.mem_cons_of_mem _ (List.mem_append_left _ (List.mem_append_right _ h))) (by decide +kernel))
set_option maxRecDepth 20000 in
theorem gL_fits_X6_waysOf : GoodIn wsL_fits (wsV RL 38 RX6 yX6_waysOf wsX6_waysOf) := goodIn_app (goodIn_of _ (by decide +kernel)) ggL_fits_X6_waysOf
set_option maxRecDepth 20000 in
theorem ggL_fits_X6_lines : GoodIn wsL_fits wsX6_lines := goodIn_ca (goodIn_r _ [87, 7, 8, 28, 29, 5, 30, 10, 11, 12, 13, 14, 88, 89, 90, 39, 91, 50, 92, 93, 94, 95, 96, 97, 98, 99, 45, 100, 101, 102, 103, 140, 141, 142, 143, 144, 145, 146, 147, 148, 149, 150, 151, 152, 153, 154] (by decide +kernel) (by decide +kernel)) (goodIn_sub (fun _ h => List.mem_cons_of_mem _ (List.mem_append_left _ (List.mem_append_right _ h))) (by decide +kernel))
set_option maxRecDepth 20000 in
theorem gL_fits_X6_lines : GoodIn wsL_fits (wsV RL 15 RX6 yX6_lines wsX6_lines) := goodIn_app (goodIn_of _ (by decide +kernel)) ggL_fits_X6_lines
set_option maxRecDepth 20000 in
theorem ggL_fits_X6_utility : GoodIn wsL_fits wsX6_utility := goodIn_ca (goodIn_ca (goodIn_r _ [107, 7, 108, 28, 29, 5, 30, 10, 11, 12, 13, 14, 31, 32, 33, 34, 35, 109, 110, 111, 112, 113, 114, 140, 141, 142, 143, 144, 145, 146, 147, 148, 149, 150, 151, 156, 157] (by decide +kernel) (by decide +kernel)) (goodIn_sub (fun _ h => List.mem_cons_of_mem _ (List.mem_append_left _ (List.mem_append_right _ h))) (by decide +kernel))) (goodIn_sub (fun _ h => List.mem_cons_of_mem _ (List.mem_append_right _ h)) (by decide +kernel))
set_option maxRecDepth 20000 in
theorem gL_fits_X6_utility : GoodIn wsL_fits (wsV RL 41 RX6 yX6_utility wsX6_utility) := goodIn_app (goodIn_of _ (by decide +kernel)) ggL_fits_X6_utility
set_option maxRecDepth 20000 in
theorem ggL_fits_L_gains : GoodIn wsL_fits wsL_gains := goodIn_ca (goodIn_r _ [117, 118, 119, 120, 5, 121, 7, 108, 122, 28, 29, 30, 10, 11, 12, 13, 14, 140, 141, 142, 143, 144, 145, 146, 147, 148, 149, 150, 151, 156, 157] (by decide +kernel) (by decide +kernel)) (goodIn_sub (fun _ h => List.mem_cons_of_mem _ (List.mem_append_left _ (List.mem_append_right _ h))) (by decide +kernel))
set_option maxRecDepth 20000 in
theorem gL_fits_L_gains : GoodIn wsL_fits (va_wsS RL 44 yL_gains wsL_gains) := goodIn_app (goodIn_of _ (by decide +kernel)) ggL_fits_L_gains
set_option maxRecDepth 20000 in
theorem ggL_fits_X6_movesLeft : GoodIn wsL_fits wsX6_movesLeft := goodIn_r _ [126, 55, 7, 127, 128, 129, 130, 57, 58, 59, 60, 61, 62, 63, 64, 65, 66, 67, 68, 69, 70, 71, 72, 73, 131, 132, 133, 5, 134, 56, 8, 83, 47, 48, 39, 49, 50, 140, 141, 142, 143, 144, 145, 155, 146, 147, 148, 149, 150, 151, 156, 157, 152, 153, 154] (by decide +kernel) (by decide +kernel)
set_option maxRecDepth 20000 in
theorem gL_fits_X6_movesLeft : GoodIn wsL_fits (wsV RL 48 RX6 yX6_movesLeft wsX6_movesLeft) := goodIn_app (goodIn_of _ (by decide +kernel)) ggL_fits_X6_movesLeft
set_option maxRecDepth 20000 in
theorem ggL_fits_X6_accesses : GoodIn wsL_fits wsX6_accesses := goodIn_r _ [138, 7, 139, 140, 141, 142, 143, 144, 145, 146, 147, 148, 149, 150, 151] (by decide +kernel) (by decide +kernel)
set_option maxRecDepth 20000 in
theorem gL_fits_X6_accesses : GoodIn wsL_fits (wsV RL 52 RX6 yX6_accesses wsX6_accesses) := goodIn_app (goodIn_of _ (by decide +kernel)) ggL_fits_X6_accesses
