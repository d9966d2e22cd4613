set_option maxRecDepth 20000 in
theorem gL_law_X6_init : GoodIn wsL_law (wsX6_init) := ggL_law_X6_init
set_option maxRecDepth 20000 in
theorem gL_law_L_cell : GoodIn wsL_law (va_wsS RL 79 yL_cell wsL_cell) := goodIn_app (goodIn_of _ (by decide +kernel)) ggL_law_L_cell
set_option maxRecDepth 20000 in
theorem gL_law_L_low : GoodIn wsL_law (va_wsS RL 83 yL_low wsL_low) := goodIn_app (goodIn_of _ (by decide +kernel)) ggL_law_L_low
set_option maxRecDepth 20000 in
theorem gL_law_L_accesses : GoodIn wsL_law (va_wsS RL 86 yL_accesses wsL_accesses) := goodIn_app (goodIn_of _ (by decide +kernel)) ggL_law_L_accesses
set_option maxRecDepth 20000 in
theorem gL_law_X6_lines : GoodIn wsL_law (wsV RL 15 RX6 yX6_lines wsX6_lines) := goodIn_app (goodIn_of _ (by decide +kernel)) ggL_law_X6_lines
set_option maxRecDepth 20000 in
theorem gL_law_L_all : GoodIn wsL_law (va_wsS RL 68 yL_all wsL_all) := goodIn_app (goodIn_of _ (by decide +kernel)) ggL_law_L_all
set_option maxRecDepth 20000 in
theorem gL_law_X6_flush : GoodIn wsL_law (wsV RL 89 RX6 yX6_flush wsX6_flush) := goodIn_app (goodIn_of _ (by decide +kernel)) ggL_law_X6_flush
set_option maxRecDepth 20000 in
theorem gL_law_L_moves : GoodIn wsL_law (va_wsS RL 92 yL_moves wsL_moves) := goodIn_app (goodIn_of _ (by decide +kernel)) ggL_law_L_moves
set_option maxRecDepth 20000 in
theorem gL_law_X6_owner : GoodIn wsL_law (wsV RL 19 RX6 yX6_owner wsX6_owner) := goodIn_app (goodIn_of _ (by decide +kernel)) ggL_law_X6_owner
set_option maxRecDepth 20000 in
theorem gL_law_X6_giveWay : GoodIn wsL_law (wsV RL 96 RX6 yX6_giveWay wsX6_giveWay) := goodIn_app (goodIn_of _ (by decide +kernel)) ggL_law_X6_giveWay
set_option maxRecDepth 20000 in
theorem gL_law_X6_setLeast : GoodIn wsL_law (wsV RL 99 RX6 yX6_setLeast wsX6_setLeast) := goodIn_app (goodIn_of _ (by decide +kernel)) ggL_law_X6_setLeast
set_option maxRecDepth 20000 in
theorem gL_law_X6_target : GoodIn wsL_law (wsV RL 32 RX6 yX6_target wsX6_target) := goodIn_app (goodIn_of _ (by decide +kernel)) ggL_law_X6_target
set_option maxRecDepth 20000 in
theorem gL_law_L_gains : GoodIn wsL_law (va_wsS RL 44 yL_gains wsL_gains) := goodIn_app (goodIn_of _ (by decide +kernel)) ggL_law_L_gains
set_option maxRecDepth 20000 in
theorem gL_law_X6_halveGains : GoodIn wsL_law (wsV RL 102 RX6 yX6_halveGains wsX6_halveGains) := goodIn_app (goodIn_of _ (by decide +kernel)) ggL_law_X6_halveGains
set_option maxRecDepth 20000 in
theorem gL_law_X6_accesses : GoodIn wsL_law (wsV RL 52 RX6 yX6_accesses wsX6_accesses) := goodIn_app (goodIn_of _ (by decide +kernel)) ggL_law_X6_accesses
set_option maxRecDepth 20000 in
theorem gL_law_X6_count : GoodIn wsL_law (wsV RL 35 RX6 yX6_count wsX6_count) := goodIn_app (goodIn_of _ (by decide +kernel)) ggL_law_X6_count
set_option maxRecDepth 20000 in
theorem gL_law_X6_stream : GoodIn wsL_law (wsV RL 105 RX6 yX6_stream wsX6_stream) := goodIn_app (goodIn_of _ (by decide +kernel)) ggL_law_X6_stream
set_option maxRecDepth 20000 in
theorem gL_law_L_fits : GoodIn wsL_law (va_wsS RL 109 yL_fits wsL_fits) := goodIn_app (goodIn_of _ (by decide +kernel)) ggL_law_L_fits
set_option maxRecDepth 20000 in
theorem gL_law_X6_savedStates : GoodIn wsL_law (wsV RL 112 RX6 yX6_savedStates wsX6_savedStates) := goodIn_app (goodIn_of _ (by decide +kernel)) ggL_law_X6_savedStates
