set_option maxRecDepth 20000 in
theorem ggL_law_X3_loudestGate : GoodIn wsL_law wsX3_loudestGate := goodIn_r _ [332, 20, 80, 320, 242, 243, 19, 244, 29, 245, 246, 247, 248, 25, 249, 9, 6, 10, 250, 119, 120, 121, 103, 251, 252, 253, 28, 254, 131, 38, 255, 256, 257, 258, 37, 39, 449, 450, 451, 452, 453, 454, 455, 456, 457, 458, 459, 460, 461, 462] (by decide +kernel) (by decide +kernel)
set_option maxRecDepth 20000 in
theorem gL_law_X3_loudestGate : GoodIn wsL_law (wsV RL 107 RX3 yX3_loudestGate wsX3_loudestGate) := goodIn_app (goodIn_of _ (by decide +kernel)) ggL_law_X3_loudestGate
set_option maxRecDepth 20000 in
theorem ggL_law_X3_rankOf : GoodIn wsL_law wsX3_rankOf := goodIn_ca (goodIn_r _ [336, 20, 148, 118, 119, 120, 19, 121, 103, 122, 123, 2, 124, 125, 126, 449, 450, 451, 452, 453, 454, 455, 456, 457] (by decide +kernel) (by decide +kernel)) (goodIn_sub (fun _ h => List.mem_append_right _ h) (by decide +kernel))
set_option maxRecDepth 20000 in
theorem gL_law_X3_rankOf : GoodIn wsL_law (wsV RL 110 RX3 yX3_rankOf wsX3_rankOf) := goodIn_app (goodIn_of _ (by decide +kernel)) ggL_law_X3_rankOf
set_option maxRecDepth 20000 in
theorem ggL_law_X3_temperOf : GoodIn wsL_law wsX3_temperOf := goodIn_ca (goodIn_r _ [340, 20, 116, 186, 187, 188, 189, 2, 190, 154, 155, 156, 28, 157, 131, 122, 123, 124, 125, 126, 449, 450, 451, 452, 453, 454, 455, 456, 457, 458, 459, 460, 461, 462] (by decide +kernel) (by decide +kernel)) (goodIn_sub (fun _ h => List.mem_append_right _ h) (by decide +kernel))
set_option maxRecDepth 20000 in
theorem gL_law_X3_temperOf : GoodIn wsL_law (wsV RL 113 RX3 yX3_temperOf wsX3_temperOf) := goodIn_app (goodIn_of _ (by decide +kernel)) ggL_law_X3_temperOf
set_option maxRecDepth 20000 in
theorem ggL_law_X3_calmFor : GoodIn wsL_law wsX3_calmFor := goodIn_ca (goodIn_r _ [344, 20, 116, 345, 187, 188, 189, 2, 190, 154, 155, 156, 28, 157, 131, 122, 123, 124, 125, 126, 449, 450, 451, 452, 453, 454, 455, 456, 457, 458, 459, 460, 461, 462] (by decide +kernel) (by decide +kernel)) (goodIn_sub (fun _ h => List.mem_append_right _ h) (by decide +kernel))
set_option maxRecDepth 20000 in
theorem gL_law_X3_calmFor : GoodIn wsL_law (wsV RL 116 RX3 yX3_calmFor wsX3_calmFor) := goodIn_app (goodIn_of _ (by decide +kernel)) ggL_law_X3_calmFor
set_option maxRecDepth 20000 in
theorem ggL_law_X3_eatenBy : GoodIn wsL_law wsX3_eatenBy := goodIn_ca (goodIn_r _ [349, 20, 116, 350, 187, 188, 189, 2, 190, 154, 155, 156, 28, 157, 131, 122, 123, 124, 125, 126, 449, 450, 451, 452, 453, 454, 455, 456, 457, 458, 459, 460, 461, 462] (by decide +kernel) (by decide +kernel)) (goodIn_sub (fun _ h => List.mem_append_right _ h) (by decide +kernel))
set_option maxRecDepth 20000 in
theorem gL_law_X3_eatenBy : GoodIn wsL_law (wsV RL 119 RX3 yX3_eatenBy wsX3_eatenBy) := goodIn_app (goodIn_of _ (by decide +kernel)) ggL_law_X3_eatenBy
set_option maxRecDepth 20000 in
theorem ggL_law_X3_passedBy : GoodIn wsL_law wsX3_passedBy := goodIn_ca (goodIn_r _ [354, 20, 81, 185, 164, 165, 166, 2, 167, 168, 169, 170, 32, 171, 143, 122, 123, 124, 125, 126, 449, 450, 451, 452, 453, 454, 455, 456, 457, 463, 464, 465, 466, 467, 468] (by decide +kernel) (by decide +kernel)) (goodIn_sub (fun _ h => List.mem_append_right _ h) (by decide +kernel))
set_option maxRecDepth 20000 in
theorem gL_law_X3_passedBy : GoodIn wsL_law (wsV RL 122 RX3 yX3_passedBy wsX3_passedBy) := goodIn_app (goodIn_of _ (by decide +kernel)) ggL_law_X3_passedBy
set_option maxRecDepth 20000 in
theorem ggL_law_X3_cornsOf : GoodIn wsL_law wsX3_cornsOf := goodIn_ca (goodIn_r _ [358, 20, 81, 162, 164, 165, 166, 2, 167, 168, 169, 170, 32, 171, 143, 122, 123, 124, 125, 126, 449, 450, 451, 452, 453, 454, 455, 456, 457, 463, 464, 465, 466, 467, 468] (by decide +kernel) (by decide +kernel)) (goodIn_sub (fun _ h => List.mem_append_right _ h) (by decide +kernel))
set_option maxRecDepth 20000 in
theorem gL_law_X3_cornsOf : GoodIn wsL_law (wsV RL 125 RX3 yX3_cornsOf wsX3_cornsOf) := goodIn_app (goodIn_of _ (by decide +kernel)) ggL_law_X3_cornsOf
set_option maxRecDepth 20000 in
theorem ggL_law_X3_nerveOf : GoodIn wsL_law wsX3_nerveOf := goodIn_ca (goodIn_r _ [362, 20, 81, 363, 164, 165, 166, 2, 167, 168, 169, 170, 32, 171, 143, 122, 123, 124, 125, 126, 449, 450, 451, 452, 453, 454, 455, 456, 457, 463, 464, 465, 466, 467, 468] (by decide +kernel) (by decide +kernel)) (goodIn_sub (fun _ h => List.mem_append_right _ h) (by decide +kernel))
set_option maxRecDepth 20000 in
theorem gL_law_X3_nerveOf : GoodIn wsL_law (wsV RL 128 RX3 yX3_nerveOf wsX3_nerveOf) := goodIn_app (goodIn_of _ (by decide +kernel)) ggL_law_X3_nerveOf
set_option maxRecDepth 20000 in
theorem ggL_law_X3_retreatOf : GoodIn wsL_law wsX3_retreatOf := goodIn_ca (goodIn_r _ [367, 20, 81, 368, 164, 165, 166, 2, 167, 168, 169, 170, 32, 171, 143, 122, 123, 124, 125, 126, 449, 450, 451, 452, 453, 454, 455, 456, 457, 463, 464, 465, 466, 467, 468] (by decide +kernel) (by decide +kernel)) (goodIn_sub (fun _ h => List.mem_append_right _ h) (by decide +kernel))
set_option maxRecDepth 20000 in
theorem gL_law_X3_retreatOf : GoodIn wsL_law (wsV RL 131 RX3 yX3_retreatOf wsX3_retreatOf) := goodIn_app (goodIn_of _ (by decide +kernel)) ggL_law_X3_retreatOf
set_option maxRecDepth 20000 in
theorem ggL_law_X3_gradeFor : GoodIn wsL_law wsX3_gradeFor := goodIn_ca (goodIn_r _ [372, 20, 164, 165, 166, 2, 167, 81, 168, 169, 170, 32, 171, 143, 122, 123, 124, 125, 126, 373, 374, 375, 19, 376, 33, 195, 238, 241, 242, 243, 244, 29, 245, 246, 247, 248, 25, 249, 9, 6, 10, 250, 119, 120, 121, 103, 251, 252, 253, 28, 254, 131, 38, 255, 256, 257, 258, 37, 39, 377, 270, 271, 449, 450, 451, 452, 453, 454, 455, 456, 457, 463, 464, 465, 466, 467, 468, 458, 459, 460, 461, 462] (by decide +kernel) (by decide +kernel)) (goodIn_sub (fun _ h => List.mem_append_right _ h) (by decide +kernel))
set_option maxRecDepth 20000 in
theorem gL_law_X3_gradeFor : GoodIn wsL_law (wsV RL 134 RX3 yX3_gradeFor wsX3_gradeFor) := goodIn_app (goodIn_of _ (by decide +kernel)) ggL_law_X3_gradeFor
