set_option maxRecDepth 20000 in
theorem gqL_moves_L_moves_r5 : GoodIn wsL_law wsL_moves_r5 := goodIn_r _ [202, 35, 39, 41, 203, 204, 205, 206, 42, 43, 44, 207, 208, 209, 210, 211, 51, 212, 213, 214, 38, 215, 56, 216] (by decide +kernel) (by decide +kernel)
set_option maxRecDepth 20000 in
theorem gqL_moves_L_moves_r6 : GoodIn wsL_law wsL_moves_r6 := goodIn_r _ [57, 236, 237, 238, 239, 262, 263, 264, 265, 270, 271, 272, 273, 301, 302, 303, 304] (by decide +kernel) (by decide +kernel)
set_option maxRecDepth 20000 in
theorem gqL_moves_X60 : GoodIn wsL_law wsX60 := goodIn_r _ [342, 343, 344, 345, 346, 347] (by decide +kernel) (by decide +kernel)
set_option maxRecDepth 20000 in
theorem gqL_moves_X50 : GoodIn wsL_law wsX50 := goodIn_r _ [354] (by decide +kernel) (by decide +kernel)
