set_option maxRecDepth 20000 in
theorem gqL_fits_X30 : GoodIn wsL_law wsX30 := goodIn_r _ [360, 361, 362] (by decide +kernel) (by decide +kernel)
set_option maxRecDepth 20000 in
theorem gqL_fits_X50 : GoodIn wsL_law wsX50 := goodIn_r _ [354] (by decide +kernel) (by decide +kernel)
set_option maxRecDepth 20000 in
theorem gqL_fits_X20 : GoodIn wsL_law wsX20 := goodIn_r _ [363, 364] (by decide +kernel) (by decide +kernel)
