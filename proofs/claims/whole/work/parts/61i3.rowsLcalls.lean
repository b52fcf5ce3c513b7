set_option maxRecDepth 20000 in
theorem ggL_law_X4_inFarm : GoodIn wsL_law wsX4_inFarm := goodIn_r _ [436, 357, 358, 359, 5, 360, 95, 267, 268, 269, 270, 94, 228, 229, 230, 231, 53, 401, 402, 403, 404, 93, 864, 865, 866, 867, 868, 869, 870, 871, 872] (by decide +kernel) (by decide +kernel)
set_option maxRecDepth 20000 in
theorem gL_law_X4_inFarm : GoodIn wsL_law (wsV RL 165 RX4 yX4_inFarm wsX4_inFarm) := goodIn_app (goodIn_of _ (by decide +kernel)) ggL_law_X4_inFarm
set_option maxRecDepth 20000 in
theorem ggL_law_X3_bribes : GoodIn wsL_law wsX3_bribes := goodIn_r _ [440, 16, 441, 862, 863, 873, 874, 875, 876, 877, 878, 879] (by decide +kernel) (by decide +kernel)
set_option maxRecDepth 20000 in
theorem gL_law_X3_bribes : GoodIn wsL_law (wsV RL 166 RX3 yX3_bribes wsX3_bribes) := goodIn_app (goodIn_of _ (by decide +kernel)) ggL_law_X3_bribes
set_option maxRecDepth 20000 in
theorem ggL_law_X4_bribes : GoodIn wsL_law wsX4_bribes := goodIn_r _ [445, 53, 401, 402, 403, 5, 404, 93, 864, 865, 866, 867, 868, 869, 870, 871, 872] (by decide +kernel) (by decide +kernel)
set_option maxRecDepth 20000 in
theorem gL_law_X4_bribes : GoodIn wsL_law (wsV RL 169 RX4 yX4_bribes wsX4_bribes) := goodIn_app (goodIn_of _ (by decide +kernel)) ggL_law_X4_bribes
set_option maxRecDepth 20000 in
theorem ggL_law_X3_retreats : GoodIn wsL_law wsX3_retreats := goodIn_r _ [449, 16, 450, 862, 863, 873, 874, 875, 876, 877, 878, 879] (by decide +kernel) (by decide +kernel)
set_option maxRecDepth 20000 in
theorem gL_law_X3_retreats : GoodIn wsL_law (wsV RL 170 RX3 yX3_retreats wsX3_retreats) := goodIn_app (goodIn_of _ (by decide +kernel)) ggL_law_X3_retreats
set_option maxRecDepth 20000 in
theorem ggL_law_X4_retreats : GoodIn wsL_law wsX4_retreats := goodIn_r _ [454, 53, 401, 402, 403, 5, 404, 93, 864, 865, 866, 867, 868, 869, 870, 871, 872] (by decide +kernel) (by decide +kernel)
set_option maxRecDepth 20000 in
theorem gL_law_X4_retreats : GoodIn wsL_law (wsV RL 173 RX4 yX4_retreats wsX4_retreats) := goodIn_app (goodIn_of _ (by decide +kernel)) ggL_law_X4_retreats
set_option maxRecDepth 20000 in
theorem ggL_law_L_rankOf : GoodIn wsL_law wsL_rankOf := goodIn_ca (goodIn_r _ [457, 110, 458, 459, 460, 2, 461, 16, 174, 117, 118, 119, 15, 120, 88, 121, 122, 123, 124, 125, 862, 863, 873, 874, 875, 876, 877, 878, 879] (by decide +kernel) (by decide +kernel)) (goodIn_sub (fun _ h => List.mem_append_right _ h) (by decide +kernel))
set_option maxRecDepth 20000 in
theorem gL_law_L_rankOf : GoodIn wsL_law (va_wsS RL 174 yL_rankOf wsL_rankOf) := goodIn_app (goodIn_of _ (by decide +kernel)) ggL_law_L_rankOf
set_option maxRecDepth 20000 in
theorem ggL_law_X4_rankOf : GoodIn wsL_law wsX4_rankOf := goodIn_r _ [465, 93, 50, 136, 137, 138, 5, 139, 94, 96, 97, 98, 99, 100, 101, 102, 864, 865, 866, 867, 868, 869, 870, 871, 872] (by decide +kernel) (by decide +kernel)
set_option maxRecDepth 20000 in
theorem gL_law_X4_rankOf : GoodIn wsL_law (wsV RL 176 RX4 yX4_rankOf wsX4_rankOf) := goodIn_app (goodIn_of _ (by decide +kernel)) ggL_law_X4_rankOf
set_option maxRecDepth 20000 in
theorem ggL_law_L_awakeAt : GoodIn wsL_law wsL_awakeAt := goodIn_ca (goodIn_r _ [468, 110, 469, 470, 471, 2, 472, 16, 115, 117, 118, 119, 15, 120, 88, 121, 122, 123, 124, 125, 473, 474, 475, 25, 476, 130, 331, 332, 333, 334, 34, 36, 862, 863, 873, 874, 875, 876, 877, 878, 879, 880, 881, 882, 883, 884] (by decide +kernel) (by decide +kernel)) (goodIn_sub (fun _ h => List.mem_append_right _ h) (by decide +kernel))
set_option maxRecDepth 20000 in
theorem gL_law_L_awakeAt : GoodIn wsL_law (va_wsS RL 177 yL_awakeAt wsL_awakeAt) := goodIn_app (goodIn_of _ (by decide +kernel)) ggL_law_L_awakeAt
set_option maxRecDepth 20000 in
theorem ggL_law_X4_awakeAt : GoodIn wsL_law wsX4_awakeAt := goodIn_r _ [480, 93, 136, 137, 138, 5, 139, 94, 96, 97, 98, 481, 482, 483, 484, 135, 377, 378, 379, 380, 51, 276, 277, 278, 279, 53, 99, 100, 101, 102, 864, 865, 866, 867, 868, 869, 870, 871, 872] (by decide +kernel) (by decide +kernel)
set_option maxRecDepth 20000 in
theorem gL_law_X4_awakeAt : GoodIn wsL_law (wsV RL 179 RX4 yX4_awakeAt wsX4_awakeAt) := goodIn_app (goodIn_of _ (by decide +kernel)) ggL_law_X4_awakeAt
set_option maxRecDepth 20000 in
theorem ggL_law_L_hissOf : GoodIn wsL_law wsL_hissOf := goodIn_ca (goodIn_ca (goodIn_r _ [487, 110, 59, 488, 489, 490, 2, 491, 16, 117, 118, 119, 15, 120, 88, 121, 122, 123, 124, 125, 68, 69, 70, 71, 72, 73, 74, 75, 76, 77, 78, 492, 318, 319, 320, 26, 321, 322, 323, 324, 22, 325, 261, 209, 262, 326, 327, 328, 329, 25, 330, 130, 35, 331, 332, 333, 334, 34, 36, 862, 863, 873, 874, 875, 876, 877, 878, 879, 880, 881, 882, 883, 884] (by decide +kernel) (by decide +kernel)) (goodIn_sub (fun _ h => List.mem_append_right _ h) (by decide +kernel))) (goodIn_sub (fun _ h => List.mem_append_left _ (List.mem_append_left _ (List.mem_append_right _ h))) (by decide +kernel))
set_option maxRecDepth 20000 in
theorem gL_law_L_hissOf : GoodIn wsL_law (va_wsS RL 180 yL_hissOf wsL_hissOf) := goodIn_app (goodIn_of _ (by decide +kernel)) ggL_law_L_hissOf
set_option maxRecDepth 20000 in
theorem ggL_law_X4_hissOf : GoodIn wsL_law wsX4_hissOf := goodIn_r _ [496, 93, 136, 137, 138, 5, 139, 94, 96, 97, 98, 99, 100, 101, 102, 373, 374, 375, 376, 135, 377, 378, 379, 380, 51, 276, 277, 278, 279, 53, 381, 382, 383, 384, 50, 275, 261, 209, 262, 864, 865, 866, 867, 868, 869, 870, 871, 872] (by decide +kernel) (by decide +kernel)
set_option maxRecDepth 20000 in
theorem gL_law_X4_hissOf : GoodIn wsL_law (wsV RL 182 RX4 yX4_hissOf wsX4_hissOf) := goodIn_app (goodIn_of _ (by decide +kernel)) ggL_law_X4_hissOf
set_option maxRecDepth 20000 in
theorem ggL_law_X3_loudestGate : GoodIn wsL_law wsX3_loudestGate := goodIn_r _ [500, 16, 65, 492, 318, 319, 15, 320, 26, 321, 322, 323, 324, 22, 325, 261, 209, 262, 326, 118, 119, 120, 88, 327, 328, 329, 25, 330, 130, 35, 331, 332, 333, 334, 34, 36, 862, 863, 873, 874, 875, 876, 877, 878, 879, 880, 881, 882, 883, 884] (by decide +kernel) (by decide +kernel)
set_option maxRecDepth 20000 in
theorem gL_law_X3_loudestGate : GoodIn wsL_law (wsV RL 183 RX3 yX3_loudestGate wsX3_loudestGate) := goodIn_app (goodIn_of _ (by decide +kernel)) ggL_law_X3_loudestGate
set_option maxRecDepth 20000 in
theorem ggL_law_X4_loudestGate : GoodIn wsL_law wsX4_loudestGate := goodIn_r _ [504, 505, 506, 507, 5, 508, 94, 373, 374, 375, 376, 135, 377, 378, 379, 380, 51, 276, 277, 278, 279, 53, 381, 382, 383, 384, 50, 275, 261, 209, 262, 401, 402, 403, 404, 93, 864, 865, 866, 867, 868, 869, 870, 871, 872] (by decide +kernel) (by decide +kernel)
set_option maxRecDepth 20000 in
theorem gL_law_X4_loudestGate : GoodIn wsL_law (wsV RL 186 RX4 yX4_loudestGate wsX4_loudestGate) := goodIn_app (goodIn_of _ (by decide +kernel)) ggL_law_X4_loudestGate
set_option maxRecDepth 20000 in
theorem ggL_law_L_gateOf : GoodIn wsL_law wsL_gateOf := goodIn_ca (goodIn_r _ [511, 110, 512, 513, 514, 2, 515, 16, 115, 186, 241, 242, 243, 244, 187, 188, 189, 25, 190, 130, 121, 122, 123, 124, 125, 862, 863, 873, 874, 875, 876, 877, 878, 879, 880, 881, 882, 883, 884] (by decide +kernel) (by decide +kernel)) (goodIn_sub (fun _ h => List.mem_append_right _ h) (by decide +kernel))
set_option maxRecDepth 20000 in
theorem gL_law_L_gateOf : GoodIn wsL_law (va_wsS RL 187 yL_gateOf wsL_gateOf) := goodIn_app (goodIn_of _ (by decide +kernel)) ggL_law_L_gateOf
