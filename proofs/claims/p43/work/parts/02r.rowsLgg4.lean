set_option maxRecDepth 20000 in
theorem ggL_law_X3_hissAt : GoodIn wsL_law wsX3_hissAt := goodIn_ca (goodIn_r _ [381, 20, 164, 165, 166, 2, 167, 81, 168, 169, 170, 32, 171, 143, 122, 123, 124, 125, 126, 373, 374, 375, 19, 376, 33, 195, 238, 241, 242, 243, 244, 29, 245, 246, 247, 248, 25, 249, 9, 6, 10, 250, 119, 120, 121, 103, 251, 252, 253, 28, 254, 131, 38, 255, 256, 257, 258, 37, 39, 449, 450, 451, 452, 453, 454, 455, 456, 457, 463, 464, 465, 466, 467, 468, 458, 459, 460, 461, 462] (by decide +kernel) (by decide +kernel)) (goodIn_sub (fun _ h => List.mem_append_right _ h) (by decide +kernel))
set_option maxRecDepth 20000 in
theorem gL_law_X3_hissAt : GoodIn wsL_law (wsV RL 137 RX3 yX3_hissAt wsX3_hissAt) := goodIn_app (goodIn_of _ (by decide +kernel)) ggL_law_X3_hissAt
set_option maxRecDepth 20000 in
theorem ggL_law_X3_isInFarm : GoodIn wsL_law wsX3_isInFarm := goodIn_ca (goodIn_r _ [385, 20, 164, 165, 166, 2, 167, 81, 168, 169, 170, 32, 171, 143, 122, 123, 124, 125, 126, 191, 192, 193, 19, 194, 33, 195, 103, 449, 450, 451, 452, 453, 454, 455, 456, 457, 463, 464, 465, 466, 467, 468] (by decide +kernel) (by decide +kernel)) (goodIn_sub (fun _ h => List.mem_append_right _ h) (by decide +kernel))
set_option maxRecDepth 20000 in
theorem gL_law_X3_isInFarm : GoodIn wsL_law (wsV RL 140 RX3 yX3_isInFarm wsX3_isInFarm) := goodIn_app (goodIn_of _ (by decide +kernel)) ggL_law_X3_isInFarm
set_option maxRecDepth 20000 in
theorem ggL_law_X3_dares : GoodIn wsL_law wsX3_dares := goodIn_ca (goodIn_r _ [389, 20, 81, 363, 164, 165, 166, 2, 167, 168, 169, 170, 32, 171, 143, 122, 123, 124, 125, 126, 191, 192, 193, 19, 194, 33, 195, 103, 373, 374, 375, 376, 238, 241, 242, 243, 244, 29, 245, 246, 247, 248, 25, 249, 9, 6, 10, 250, 119, 120, 121, 251, 252, 253, 28, 254, 131, 38, 255, 256, 257, 258, 37, 39, 449, 450, 451, 452, 453, 454, 455, 456, 457, 463, 464, 465, 466, 467, 468, 458, 459, 460, 461, 462] (by decide +kernel) (by decide +kernel)) (goodIn_sub (fun _ h => List.mem_append_right _ h) (by decide +kernel))
set_option maxRecDepth 20000 in
theorem gL_law_X3_dares : GoodIn wsL_law (wsV RL 144 RX3 yX3_dares wsX3_dares) := goodIn_app (goodIn_of _ (by decide +kernel)) ggL_law_X3_dares
set_option maxRecDepth 20000 in
theorem ggL_law_X3_bribes : GoodIn wsL_law wsX3_bribes := goodIn_r _ [393, 20, 394, 449, 450, 451, 452, 453, 454, 455, 456, 457] (by decide +kernel) (by decide +kernel)
set_option maxRecDepth 20000 in
theorem gL_law_X3_bribes : GoodIn wsL_law (wsV RL 147 RX3 yX3_bribes wsX3_bribes) := goodIn_app (goodIn_of _ (by decide +kernel)) ggL_law_X3_bribes
set_option maxRecDepth 20000 in
theorem ggL_law_X3_inFarm : GoodIn wsL_law wsX3_inFarm := goodIn_r _ [398, 20, 214, 215, 216, 19, 217, 33, 218, 219, 192, 193, 194, 195, 103, 449, 450, 451, 452, 453, 454, 455, 456, 457, 463, 464, 465, 466, 467, 468] (by decide +kernel) (by decide +kernel)
set_option maxRecDepth 20000 in
theorem gL_law_X3_inFarm : GoodIn wsL_law (wsV RL 150 RX3 yX3_inFarm wsX3_inFarm) := goodIn_app (goodIn_of _ (by decide +kernel)) ggL_law_X3_inFarm
set_option maxRecDepth 20000 in
theorem ggL_law_X3_meanTemper : GoodIn wsL_law wsX3_meanTemper := goodIn_r _ [402, 20, 116, 117, 403, 404, 405, 28, 406, 131, 38, 449, 450, 451, 452, 453, 454, 455, 456, 457, 458, 459, 460, 461, 462] (by decide +kernel) (by decide +kernel)
set_option maxRecDepth 20000 in
theorem gL_law_X3_meanTemper : GoodIn wsL_law (wsV RL 153 RX3 yX3_meanTemper wsX3_meanTemper) := goodIn_app (goodIn_of _ (by decide +kernel)) ggL_law_X3_meanTemper
set_option maxRecDepth 20000 in
theorem ggL_law_X3_retreats : GoodIn wsL_law wsX3_retreats := goodIn_r _ [410, 20, 411, 449, 450, 451, 452, 453, 454, 455, 456, 457] (by decide +kernel) (by decide +kernel)
set_option maxRecDepth 20000 in
theorem gL_law_X3_retreats : GoodIn wsL_law (wsV RL 157 RX3 yX3_retreats wsX3_retreats) := goodIn_app (goodIn_of _ (by decide +kernel)) ggL_law_X3_retreats
set_option maxRecDepth 20000 in
theorem ggL_law_X3_beats : GoodIn wsL_law wsX3_beats := goodIn_r _ [415, 20, 416, 449, 450, 451, 452, 453, 454, 455, 456, 457] (by decide +kernel) (by decide +kernel)
set_option maxRecDepth 20000 in
theorem gL_law_X3_beats : GoodIn wsL_law (wsV RL 160 RX3 yX3_beats wsX3_beats) := goodIn_app (goodIn_of _ (by decide +kernel)) ggL_law_X3_beats
set_option maxRecDepth 20000 in
theorem ggL_law_X3_passBeats : GoodIn wsL_law wsX3_passBeats := goodIn_ca (goodIn_r _ [210, 20, 211, 212, 2, 213, 86, 87, 88, 89, 90, 91, 92, 93, 214, 215, 216, 19, 217, 33, 218, 219, 192, 193, 194, 195, 103, 220, 221, 222, 223, 224, 225, 226, 227, 29, 228, 229, 230, 231, 28, 232, 131, 39, 233, 234, 235, 236, 237, 238, 239, 200, 240, 241, 242, 243, 244, 245, 246, 247, 248, 25, 249, 9, 6, 10, 250, 119, 120, 121, 251, 252, 253, 254, 38, 255, 256, 257, 258, 37, 259, 260, 261, 262, 263, 5, 7, 264, 265, 266, 267, 268, 155, 156, 157, 269, 197, 198, 199, 201, 202, 203, 204, 205, 40, 206, 270, 271, 272, 273, 274, 32, 275, 48, 45, 276, 47, 449, 450, 451, 452, 453, 454, 455, 456, 457, 463, 464, 465, 466, 467, 468, 458, 459, 460, 461, 462] (by decide +kernel) (by decide +kernel)) (goodIn_sub (fun _ h => List.mem_append_left _ (List.mem_append_left _ (List.mem_append_right _ h))) (by decide +kernel))
set_option maxRecDepth 20000 in
theorem gL_law_X3_passBeats : GoodIn wsL_law (wsV RL 73 RX3 yX3_passBeats wsX3_passBeats) := goodIn_app (goodIn_of _ (by decide +kernel)) ggL_law_X3_passBeats
set_option maxRecDepth 20000 in
theorem ggL_law_X4_pass : GoodIn wsL_law wsX4_pass := goodIn_r _ [289, 62, 63, 290, 291, 285, 173, 174, 55, 175, 60, 292, 293, 294, 295, 296, 297, 298, 299, 300, 177, 178, 179, 180, 301, 302, 303, 3, 469, 470, 471, 472, 473, 474] (by decide +kernel) (by decide +kernel)
set_option maxRecDepth 20000 in
theorem gL_law_X4_pass : GoodIn wsL_law (wsV RL 163 RX4 yX4_pass wsX4_pass) := goodIn_app (goodIn_of _ (by decide +kernel)) ggL_law_X4_pass
