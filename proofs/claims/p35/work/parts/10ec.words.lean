set_option maxRecDepth 20000 in
theorem gqL_accesses_L_accesses_r5 : GoodIn wsL_law wsL_accesses_r5 := goodIn_r _ [178, 179, 180, 181, 182, 183, 184, 185, 186, 187, 188, 189, 190, 191, 192, 193, 194, 20, 195, 196, 197, 19, 198, 67] (by decide +kernel) (by decide +kernel)
set_option maxRecDepth 20000 in
theorem gqL_accesses_L_accesses_r6 : GoodIn wsL_law wsL_accesses_r6 := goodIn_r _ [68, 69, 199, 200, 201, 11, 202, 35, 39, 41, 203, 204, 205, 206, 42, 43, 44, 207, 208, 209, 210, 211, 212, 213] (by decide +kernel) (by decide +kernel)
set_option maxRecDepth 20000 in
theorem gqL_accesses_L_accesses_r7 : GoodIn wsL_law wsL_accesses_r7 := goodIn_r _ [214, 38, 215, 56, 216, 57, 217, 218, 219, 220, 221, 222, 223, 224, 225, 226, 227, 228, 229, 230, 231, 232, 233, 234] (by decide +kernel) (by decide +kernel)
set_option maxRecDepth 20000 in
theorem gqL_accesses_L_accesses_r8 : GoodIn wsL_law wsL_accesses_r8 := goodIn_r _ [235, 236, 237, 238, 239, 16, 240, 241, 242, 243, 15, 244, 61, 245, 246, 247, 248, 249, 250, 251, 252, 253, 254, 255] (by decide +kernel) (by decide +kernel)
