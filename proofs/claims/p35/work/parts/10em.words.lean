set_option maxRecDepth 20000 in
theorem gqX6_stream_X6_stream_r5 : GoodIn wsL_law wsX6_stream_r5 := goodIn_r _ [125, 126, 127, 235, 174, 175, 176, 236, 237, 238, 239, 16, 240, 241, 242, 243, 15, 244, 61, 245, 246, 247, 248, 249] (by decide +kernel) (by decide +kernel)
set_option maxRecDepth 20000 in
theorem gqX6_stream_X6_stream_r6 : GoodIn wsL_law wsX6_stream_r6 := goodIn_r _ [250, 251, 252, 253, 254, 255, 256, 257, 258, 259, 260, 261, 262, 263, 264, 265, 169, 170, 171, 172, 173, 266, 267, 268] (by decide +kernel) (by decide +kernel)
set_option maxRecDepth 20000 in
theorem gqX6_stream_X6_stream_r7 : GoodIn wsL_law wsX6_stream_r7 := goodIn_r _ [269] (by decide +kernel) (by decide +kernel)
set_option maxRecDepth 20000 in
theorem gqX6_stream_X60 : GoodIn wsL_law wsX60 := goodIn_r _ [342, 343, 344, 345, 346, 347] (by decide +kernel) (by decide +kernel)
