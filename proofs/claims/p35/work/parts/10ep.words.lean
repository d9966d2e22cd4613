set_option maxRecDepth 20000 in
theorem ggL_law_L_cell : GoodIn wsL_law wsL_cell := goodIn_r _ [80, 81] (by decide +kernel) (by decide +kernel)
set_option maxRecDepth 20000 in
theorem ggL_law_L_low : GoodIn wsL_law wsL_low := goodIn_r _ [84, 85] (by decide +kernel) (by decide +kernel)
set_option maxRecDepth 20000 in
theorem ggL_law_X6_lines : GoodIn wsL_law wsX6_lines := goodIn_ca (goodIn_r _ [164, 12, 93, 94, 95, 2, 96, 97, 98, 99, 100, 101, 165, 166, 167, 34, 168, 49, 169, 170, 171, 172, 173, 174, 175, 176, 50, 177, 178, 179, 180, 342, 343, 344, 345, 346, 347, 348, 349, 350, 351, 352, 353, 360, 361, 362] (by decide +kernel) (by decide +kernel)) (goodIn_sub (fun _ h => List.mem_append_left _ (List.mem_append_right _ h)) (by decide +kernel))
set_option maxRecDepth 20000 in
theorem ggL_law_L_all : GoodIn wsL_law wsL_all := goodIn_ca (goodIn_r _ [160, 161, 162, 163, 2, 164, 12, 93, 94, 95, 96, 97, 98, 99, 100, 101, 165, 166, 167, 34, 168, 49, 169, 170, 171, 172, 173, 174, 175, 176, 50, 177, 178, 179, 180, 342, 343, 344, 345, 346, 347, 348, 349, 350, 351, 352, 353, 360, 361, 362] (by decide +kernel) (by decide +kernel)) (goodIn_sub (fun _ h => List.mem_append_left _ (List.mem_append_right _ h)) (by decide +kernel))
set_option maxRecDepth 20000 in
theorem ggL_law_X6_flush : GoodIn wsL_law wsX6_flush := goodIn_ca (goodIn_r _ [281, 20, 12, 93, 94, 95, 2, 96, 97, 98, 99, 100, 101, 195, 196, 197, 19, 198, 67, 68, 69, 199, 200, 201, 11, 202, 35, 39, 41, 203, 204, 205, 206, 42, 43, 44, 207, 208, 209, 34, 210, 49, 211, 50, 51, 212, 213, 214, 38, 215, 56, 216, 57, 282, 283, 284, 285, 173, 174, 175, 176, 342, 343, 344, 345, 346, 347, 348, 349, 350, 351, 352, 353, 355, 356, 357, 360, 361, 362, 363, 364] (by decide +kernel) (by decide +kernel)) (goodIn_sub (fun _ h => List.mem_append_left _ (List.mem_append_right _ h)) (by decide +kernel))
