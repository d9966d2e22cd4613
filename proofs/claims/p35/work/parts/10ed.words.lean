set_option maxRecDepth 20000 in
theorem gqL_accesses_L_accesses_r9 : GoodIn wsL_law wsL_accesses_r9 := goodIn_r _ [256, 257, 258, 259, 260, 261, 262, 263, 264, 265, 266, 267, 268, 269, 270, 271, 272, 273, 274, 275, 276, 277] (by decide +kernel) (by decide +kernel)
set_option maxRecDepth 20000 in
theorem gqL_accesses_X60 : GoodIn wsL_law wsX60 := goodIn_r _ [342, 343, 344, 345, 346, 347] (by decide +kernel) (by decide +kernel)
set_option maxRecDepth 20000 in
theorem gqL_accesses_X40 : GoodIn wsL_law wsX40 := goodIn_r _ [348, 349, 350, 351, 352, 353] (by decide +kernel) (by decide +kernel)
set_option maxRecDepth 20000 in
theorem gqL_accesses_X30 : GoodIn wsL_law wsX30 := goodIn_r _ [360, 361, 362] (by decide +kernel) (by decide +kernel)
