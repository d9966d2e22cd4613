set_option maxRecDepth 20000 in
theorem gqX6_stream_X50 : GoodIn wsL_law wsX50 := goodIn_r _ [354] (by decide +kernel) (by decide +kernel)
