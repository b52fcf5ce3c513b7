set_option maxRecDepth 20000 in
theorem ggL_law_X3_init : GoodIn wsL_law wsX3_init := goodIn_r _ [13, 14, 15, 16, 17, 18, 19, 20, 21, 22, 23, 24, 3, 25, 26, 27, 28, 29, 30, 31, 32, 33, 34, 35, 36, 37, 38, 39, 40, 41, 42, 43, 44, 45, 46, 47, 48, 451, 452, 453, 454, 455, 456, 457, 449, 450, 458, 459, 460, 461, 462, 463, 464, 465, 466, 467, 468] (by decide +kernel) (by decide +kernel)
set_option maxRecDepth 20000 in
theorem gL_law_X3_init : GoodIn wsL_law (wsX3_init) := ggL_law_X3_init
set_option maxRecDepth 20000 in
theorem gL_law_L_build : GoodIn wsL_law (va_wsS RL 89 yL_build wsL_build) := goodIn_app (goodIn_of _ (by decide +kernel)) ggL_law_L_build
set_option maxRecDepth 20000 in
theorem ggL_law_L_cell : GoodIn wsL_law wsL_cell := goodIn_r _ [66, 67] (by decide +kernel) (by decide +kernel)
set_option maxRecDepth 20000 in
theorem gL_law_L_cell : GoodIn wsL_law (va_wsS RL 80 yL_cell wsL_cell) := goodIn_app (goodIn_of _ (by decide +kernel)) ggL_law_L_cell
set_option maxRecDepth 20000 in
theorem gL_law_L_act : GoodIn wsL_law (va_wsS RL 84 yL_act wsL_act) := goodIn_app (goodIn_of _ (by decide +kernel)) ggL_law_L_act
set_option maxRecDepth 20000 in
theorem ggL_law_X3_gates : GoodIn wsL_law wsX3_gates := goodIn_r _ [307, 20, 80, 449, 450, 451, 452, 453, 454, 455, 456, 457] (by decide +kernel) (by decide +kernel)
set_option maxRecDepth 20000 in
theorem gL_law_X3_gates : GoodIn wsL_law (wsV RL 93 RX3 yX3_gates wsX3_gates) := goodIn_app (goodIn_of _ (by decide +kernel)) ggL_law_X3_gates
set_option maxRecDepth 20000 in
theorem ggL_law_X3_geese : GoodIn wsL_law wsX3_geese := goodIn_r _ [311, 20, 116, 117, 449, 450, 451, 452, 453, 454, 455, 456, 457, 458, 459, 460, 461, 462] (by decide +kernel) (by decide +kernel)
set_option maxRecDepth 20000 in
theorem gL_law_X3_geese : GoodIn wsL_law (wsV RL 97 RX3 yX3_geese wsX3_geese) := goodIn_app (goodIn_of _ (by decide +kernel)) ggL_law_X3_geese
set_option maxRecDepth 20000 in
theorem ggL_law_X3_visitors : GoodIn wsL_law wsX3_visitors := goodIn_r _ [315, 20, 81, 82, 449, 450, 451, 452, 453, 454, 455, 456, 457, 463, 464, 465, 466, 467, 468] (by decide +kernel) (by decide +kernel)
set_option maxRecDepth 20000 in
theorem gL_law_X3_visitors : GoodIn wsL_law (wsV RL 99 RX3 yX3_visitors wsX3_visitors) := goodIn_app (goodIn_of _ (by decide +kernel)) ggL_law_X3_visitors
set_option maxRecDepth 20000 in
theorem ggL_law_L_below : GoodIn wsL_law wsL_below := goodIn_r _ [70, 71] (by decide +kernel) (by decide +kernel)
set_option maxRecDepth 20000 in
theorem gL_law_L_below : GoodIn wsL_law (va_wsS RL 22 yL_below wsL_below) := goodIn_app (goodIn_of _ (by decide +kernel)) ggL_law_L_below
set_option maxRecDepth 20000 in
theorem ggL_law_X3_hissOf : GoodIn wsL_law wsX3_hissOf := goodIn_ca (goodIn_ca (goodIn_r _ [319, 20, 118, 119, 120, 19, 121, 103, 122, 123, 2, 124, 125, 126, 83, 84, 85, 86, 87, 88, 89, 90, 91, 92, 93, 320, 242, 243, 244, 29, 245, 246, 247, 248, 25, 249, 9, 6, 10, 250, 251, 252, 253, 28, 254, 131, 38, 255, 256, 257, 258, 37, 39, 449, 450, 451, 452, 453, 454, 455, 456, 457, 458, 459, 460, 461, 462] (by decide +kernel) (by decide +kernel)) (goodIn_sub (fun _ h => List.mem_append_right _ h) (by decide +kernel))) (goodIn_sub (fun _ h => List.mem_append_left _ (List.mem_append_left _ (List.mem_append_right _ h))) (by decide +kernel))
set_option maxRecDepth 20000 in
theorem gL_law_X3_hissOf : GoodIn wsL_law (wsV RL 101 RX3 yX3_hissOf wsX3_hissOf) := goodIn_app (goodIn_of _ (by decide +kernel)) ggL_law_X3_hissOf
set_option maxRecDepth 20000 in
theorem ggL_law_X3_awakeAt : GoodIn wsL_law wsX3_awakeAt := goodIn_ca (goodIn_r _ [324, 20, 116, 118, 119, 120, 19, 121, 103, 122, 123, 2, 124, 125, 126, 325, 326, 327, 28, 328, 131, 255, 256, 257, 258, 37, 39, 449, 450, 451, 452, 453, 454, 455, 456, 457, 458, 459, 460, 461, 462] (by decide +kernel) (by decide +kernel)) (goodIn_sub (fun _ h => List.mem_append_right _ h) (by decide +kernel))
set_option maxRecDepth 20000 in
theorem gL_law_X3_awakeAt : GoodIn wsL_law (wsV RL 104 RX3 yX3_awakeAt wsX3_awakeAt) := goodIn_app (goodIn_of _ (by decide +kernel)) ggL_law_X3_awakeAt
