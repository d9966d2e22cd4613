set_option maxRecDepth 20000 in
theorem gqL_fits_L_fits_r1 : GoodIn wsL_law (.code yL_fits cL_fits 7 (some .boolean) :: wsL_fits_r1) := goodIn_r _ [328, 40, 274, 275, 276, 2, 277, 12, 93, 240, 97, 98, 99, 100, 101, 131, 132, 133, 134, 123, 128, 129, 79, 130, 89] (by decide +kernel) (by decide +kernel)
set_option maxRecDepth 20000 in
theorem gqL_fits_L_fits_r2 : GoodIn wsL_law wsL_fits_r2 := goodIn_r _ [90, 91, 92, 94, 95, 96, 102, 103, 104, 105, 106, 107, 108, 109, 34, 110, 111, 112, 113, 114, 50, 115, 116, 117] (by decide +kernel) (by decide +kernel)
set_option maxRecDepth 20000 in
theorem gqL_fits_L_fits_r3 : GoodIn wsL_law wsL_fits_r3 := goodIn_r _ [118, 49, 301, 302, 303, 304, 16, 260, 241, 242, 243, 15, 244, 61, 245, 246, 247, 248, 249, 250, 251, 252, 253, 254] (by decide +kernel) (by decide +kernel)
set_option maxRecDepth 20000 in
theorem gqL_fits_L_fits_r4 : GoodIn wsL_law wsL_fits_r4 := goodIn_r _ [255, 186, 187, 188, 189, 190, 270, 271, 272, 273, 261, 161, 162, 163, 164, 165, 166, 167, 168, 169, 170, 171, 172, 173] (by decide +kernel) (by decide +kernel)
