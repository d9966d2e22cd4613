set_option maxRecDepth 20000 in
theorem gqL_accesses_X20 : GoodIn wsL_law wsX20 := goodIn_r _ [363, 364] (by decide +kernel) (by decide +kernel)
set_option maxRecDepth 20000 in
theorem gqL_accesses_X10 : GoodIn wsL_law wsX10 := goodIn_r _ [355, 356, 357] (by decide +kernel) (by decide +kernel)
set_option maxRecDepth 20000 in
theorem gqL_accesses_X50 : GoodIn wsL_law wsX50 := goodIn_r _ [354] (by decide +kernel) (by decide +kernel)
