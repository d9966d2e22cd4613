set_option maxRecDepth 20000 in
theorem ggL_law_X6_halveGains : GoodIn wsL_law wsX6_halveGains := goodIn_r _ [317, 20, 12, 142, 195, 196, 197, 19, 198, 67, 68, 69, 199, 200, 201, 11, 202, 35, 39, 41, 203, 204, 205, 206, 42, 43, 44, 207, 208, 209, 34, 210, 49, 211, 50, 51, 212, 213, 214, 38, 215, 56, 216, 57, 266, 267, 268, 269, 318, 319, 320, 321, 342, 343, 344, 345, 346, 347, 348, 349, 350, 351, 352, 353, 355, 356, 357, 360, 361, 362, 363, 364] (by decide +kernel) (by decide +kernel)
set_option maxRecDepth 20000 in
theorem ggL_law_X6_accesses : GoodIn wsL_law wsX6_accesses := goodIn_r _ [184, 12, 185, 342, 343, 344, 345, 346, 347, 348, 349, 350, 351, 352, 353] (by decide +kernel) (by decide +kernel)
set_option maxRecDepth 20000 in
theorem ggL_law_X6_count : GoodIn wsL_law wsX6_count := goodIn_ca (goodIn_ca (goodIn_r _ [189, 12, 190, 94, 95, 2, 96, 97, 98, 99, 100, 101, 102, 103, 104, 105, 106, 342, 343, 344, 345, 346, 347, 348, 349, 350, 351, 352, 353] (by decide +kernel) (by decide +kernel)) (goodIn_sub (fun _ h => List.mem_append_left _ (List.mem_append_right _ h)) (by decide +kernel))) (goodIn_sub (fun _ h => List.mem_append_right _ h) (by decide +kernel))
set_option maxRecDepth 20000 in
theorem ggL_law_X6_savedStates : GoodIn wsL_law wsX6_savedStates := goodIn_r _ [340, 20, 341, 342, 343, 344, 345, 346, 347, 355, 356, 357] (by decide +kernel) (by decide +kernel)
