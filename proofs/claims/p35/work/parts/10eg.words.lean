set_option maxRecDepth 20000 in
theorem gqL_fits_L_fits_r5 : GoodIn wsL_law wsL_fits_r5 := goodIn_r _ [174, 175, 176, 177, 178, 179, 180, 329, 330, 331, 332, 142, 333, 334, 335, 38, 336, 57, 155, 156, 157, 150, 151, 152] (by decide +kernel) (by decide +kernel)
set_option maxRecDepth 20000 in
theorem gqL_fits_L_fits_r6 : GoodIn wsL_law wsL_fits_r6 := goodIn_r _ [153, 154, 289, 290, 291, 292, 293, 294, 295, 296, 256, 257, 258, 259, 181, 182, 183, 184, 185] (by decide +kernel) (by decide +kernel)
set_option maxRecDepth 20000 in
theorem gqL_fits_X60 : GoodIn wsL_law wsX60 := goodIn_r _ [342, 343, 344, 345, 346, 347] (by decide +kernel) (by decide +kernel)
set_option maxRecDepth 20000 in
theorem gqL_fits_X40 : GoodIn wsL_law wsX40 := goodIn_r _ [348, 349, 350, 351, 352, 353] (by decide +kernel) (by decide +kernel)
