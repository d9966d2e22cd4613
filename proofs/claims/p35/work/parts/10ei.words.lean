set_option maxRecDepth 20000 in
theorem gqL_moves_L_moves_r1 : GoodIn wsL_law (.code yL_moves cL_moves 7 (some .boolean) :: wsL_moves_r1) := goodIn_r _ [288, 40, 289, 290, 291, 2, 292, 16, 12, 293, 294, 295, 296, 241, 242, 243, 15, 244, 61, 245, 246, 247, 248, 249, 250] (by decide +kernel) (by decide +kernel)
set_option maxRecDepth 20000 in
theorem gqL_moves_L_moves_r2 : GoodIn wsL_law wsL_moves_r2 := goodIn_r _ [251, 252, 253, 254, 255, 256, 257, 258, 259, 260, 93, 261, 116, 117, 34, 118, 49, 158, 159, 79, 160, 161, 162, 163] (by decide +kernel) (by decide +kernel)
set_option maxRecDepth 20000 in
theorem gqL_moves_L_moves_r3 : GoodIn wsL_law wsL_moves_r3 := goodIn_r _ [164, 94, 95, 96, 97, 98, 99, 100, 101, 165, 166, 167, 168, 169, 170, 171, 172, 173, 174, 175, 176, 50, 177, 178] (by decide +kernel) (by decide +kernel)
set_option maxRecDepth 20000 in
theorem gqL_moves_L_moves_r4 : GoodIn wsL_law wsL_moves_r4 := goodIn_r _ [179, 180, 274, 275, 276, 277, 240, 297, 298, 299, 300, 20, 195, 196, 197, 19, 198, 67, 68, 69, 199, 200, 201, 11] (by decide +kernel) (by decide +kernel)
