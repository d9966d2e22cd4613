set_option maxRecDepth 20000 in
theorem gqX6_stream_X6_stream_r1 : GoodIn wsL_law (.code yX6_stream cX6_stream 7 (some .int) :: wsX6_stream_r1) := goodIn_r _ [325, 20, 12, 94, 95, 2, 96, 97, 98, 99, 100, 101, 102, 103, 104, 105, 106, 195, 196, 197, 19, 198, 67, 68, 69] (by decide +kernel) (by decide +kernel)
set_option maxRecDepth 20000 in
theorem gqX6_stream_X6_stream_r2 : GoodIn wsL_law wsX6_stream_r2 := goodIn_r _ [199, 200, 201, 11, 202, 35, 39, 41, 203, 204, 205, 206, 42, 43, 44, 207, 208, 209, 34, 210, 49, 211, 50, 51] (by decide +kernel) (by decide +kernel)
set_option maxRecDepth 20000 in
theorem gqX6_stream_X6_stream_r3 : GoodIn wsL_law wsX6_stream_r3 := goodIn_r _ [212, 213, 214, 38, 215, 56, 216, 57, 217, 218, 219, 220, 142, 185, 93, 190, 221, 222, 223, 224, 225, 145, 146, 148] (by decide +kernel) (by decide +kernel)
set_option maxRecDepth 20000 in
theorem gqX6_stream_X6_stream_r4 : GoodIn wsL_law wsX6_stream_r4 := goodIn_r _ [149, 107, 108, 109, 110, 111, 112, 113, 114, 115, 116, 117, 118, 226, 227, 228, 229, 230, 231, 232, 233, 123, 234, 124] (by decide +kernel) (by decide +kernel)
