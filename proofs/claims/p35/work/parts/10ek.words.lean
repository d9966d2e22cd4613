set_option maxRecDepth 20000 in
theorem gqL_moves_X40 : GoodIn wsL_law wsX40 := goodIn_r _ [348, 349, 350, 351, 352, 353] (by decide +kernel) (by decide +kernel)
set_option maxRecDepth 20000 in
theorem gqL_moves_X20 : GoodIn wsL_law wsX20 := goodIn_r _ [363, 364] (by decide +kernel) (by decide +kernel)
set_option maxRecDepth 20000 in
theorem gqL_moves_X30 : GoodIn wsL_law wsX30 := goodIn_r _ [360, 361, 362] (by decide +kernel) (by decide +kernel)
set_option maxRecDepth 20000 in
theorem gqL_moves_X10 : GoodIn wsL_law wsX10 := goodIn_r _ [355, 356, 357] (by decide +kernel) (by decide +kernel)
