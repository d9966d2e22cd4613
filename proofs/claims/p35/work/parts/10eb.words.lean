set_option maxRecDepth 20000 in
theorem gqL_accesses_L_accesses_r1 : GoodIn wsL_law (.code yL_accesses cL_accesses 17 (some .boolean) :: wsL_accesses_r1) := goodIn_r _ [88, 89, 90, 91, 2, 92, 12, 93, 94, 95, 96, 97, 98, 99, 100, 101, 102, 103, 104, 105, 106, 107, 108, 109, 34] (by decide +kernel) (by decide +kernel)
set_option maxRecDepth 20000 in
theorem gqL_accesses_L_accesses_r2 : GoodIn wsL_law wsL_accesses_r2 := goodIn_r _ [110, 111, 112, 113, 114, 50, 115, 116, 117, 118, 49, 119, 120, 121, 122, 123, 124, 125, 126, 127, 51, 128, 129, 79] (by decide +kernel) (by decide +kernel)
set_option maxRecDepth 20000 in
theorem gqL_accesses_L_accesses_r3 : GoodIn wsL_law wsL_accesses_r3 := goodIn_r _ [130, 131, 132, 133, 134, 135, 136, 137, 138, 139, 140, 141, 142, 143, 144, 145, 146, 147, 148, 149, 150, 151, 152, 153] (by decide +kernel) (by decide +kernel)
set_option maxRecDepth 20000 in
theorem gqL_accesses_L_accesses_r4 : GoodIn wsL_law wsL_accesses_r4 := goodIn_r _ [154, 155, 156, 157, 158, 159, 160, 161, 162, 163, 164, 165, 166, 167, 168, 169, 170, 171, 172, 173, 174, 175, 176, 177] (by decide +kernel) (by decide +kernel)
