set_option maxRecDepth 20000 in
theorem ggL_law_X4_giveCorns : GoodIn wsL_law wsX4_giveCorns := goodIn_r _ [222, 93, 223, 208, 209, 210, 224, 225, 226, 5, 227, 95, 96, 97, 98, 99, 100, 101, 102, 228, 229, 230, 231, 53, 163, 164, 165, 166, 864, 865, 866, 867, 868, 869, 870, 871, 872] (by decide +kernel) (by decide +kernel)
set_option maxRecDepth 20000 in
theorem gL_law_X4_giveCorns : GoodIn wsL_law (wsV RL 139 RX4 yX4_giveCorns wsX4_giveCorns) := goodIn_app (goodIn_of _ (by decide +kernel)) ggL_law_X4_giveCorns
set_option maxRecDepth 20000 in
theorem ggL_law_L_bribe : GoodIn wsL_law wsL_bribe := goodIn_ca (goodIn_ca (goodIn_r _ [234, 110, 60, 235, 236, 237, 2, 238, 16, 66, 206, 115, 186, 239, 240, 211, 212, 213, 214, 215, 216, 217, 29, 218, 158, 121, 122, 123, 124, 125, 241, 242, 243, 244, 187, 188, 189, 25, 190, 130, 245, 246, 247, 15, 248, 30, 249, 88, 79, 80, 81, 82, 83, 250, 251, 252, 253, 254, 26, 255, 256, 257, 258, 259, 37, 36, 35, 260, 261, 209, 262, 862, 863, 873, 874, 875, 876, 877, 878, 879, 885, 886, 887, 888, 889, 890, 880, 881, 882, 883, 884] (by decide +kernel) (by decide +kernel)) (goodIn_sub (fun _ h => List.mem_append_right _ h) (by decide +kernel))) (goodIn_sub (fun _ h => List.mem_append_left _ (List.mem_append_right _ h)) (by decide +kernel))
set_option maxRecDepth 20000 in
theorem gL_law_L_bribe : GoodIn wsL_law (va_wsS RL 140 yL_bribe wsL_bribe) := goodIn_app (goodIn_of _ (by decide +kernel)) ggL_law_L_bribe
set_option maxRecDepth 20000 in
theorem ggL_law_X4_bribe : GoodIn wsL_law wsX4_bribe := goodIn_r _ [266, 93, 51, 224, 225, 226, 5, 227, 95, 96, 97, 98, 195, 196, 197, 198, 135, 99, 100, 101, 102, 228, 229, 230, 231, 53, 267, 268, 269, 270, 94, 271, 272, 273, 274, 275, 261, 209, 262, 163, 164, 165, 166, 140, 141, 142, 143, 276, 277, 278, 279, 864, 865, 866, 867, 868, 869, 870, 871, 872] (by decide +kernel) (by decide +kernel)
set_option maxRecDepth 20000 in
theorem gL_law_X4_bribe : GoodIn wsL_law (wsV RL 142 RX4 yX4_bribe wsX4_bribe) := goodIn_app (goodIn_of _ (by decide +kernel)) ggL_law_X4_bribe
set_option maxRecDepth 20000 in
theorem ggL_law_L_passBeats : GoodIn wsL_law wsL_passBeats := goodIn_ca (goodIn_r _ [282, 59, 283, 284, 285, 2, 286, 16, 287, 288, 289, 71, 72, 73, 74, 75, 76, 77, 78, 290, 291, 292, 15, 293, 30, 294, 295, 246, 247, 248, 249, 88, 296, 297, 298, 299, 300, 301, 302, 303, 26, 304, 305, 306, 307, 25, 308, 130, 36, 309, 310, 311, 312, 313, 314, 315, 254, 316, 317, 318, 319, 320, 321, 322, 323, 324, 22, 325, 261, 209, 262, 326, 118, 119, 120, 327, 328, 329, 330, 35, 331, 332, 333, 334, 34, 335, 336, 337, 338, 339, 208, 210, 340, 341, 342, 343, 344, 188, 189, 190, 345, 251, 252, 253, 255, 256, 257, 258, 259, 37, 260, 346, 347, 348, 349, 350, 29, 351, 45, 42, 352, 44, 862, 863, 873, 874, 875, 876, 877, 878, 879, 885, 886, 887, 888, 889, 890, 880, 881, 882, 883, 884] (by decide +kernel) (by decide +kernel)) (goodIn_sub (fun _ h => List.mem_append_left _ (List.mem_append_left _ (List.mem_append_right _ h))) (by decide +kernel))
set_option maxRecDepth 20000 in
theorem gL_law_L_passBeats : GoodIn wsL_law (va_wsS RL 143 yL_passBeats wsL_passBeats) := goodIn_app (goodIn_of _ (by decide +kernel)) ggL_law_L_passBeats
set_option maxRecDepth 20000 in
theorem ggL_law_X4_passBeats : GoodIn wsL_law wsX4_passBeats := goodIn_r _ [356, 93, 96, 97, 5, 98, 99, 100, 101, 102, 357, 358, 359, 360, 95, 267, 268, 269, 270, 94, 228, 229, 230, 231, 53, 361, 362, 363, 364, 365, 366, 367, 368, 135, 276, 277, 278, 279, 140, 141, 142, 143, 369, 370, 371, 372, 52, 223, 208, 209, 210, 275, 261, 262, 163, 164, 165, 166, 373, 374, 375, 376, 377, 378, 379, 380, 51, 381, 382, 383, 384, 50, 385, 386, 387, 388, 271, 272, 273, 274, 389, 390, 391, 864, 865, 866, 867, 868, 869, 870, 871, 872] (by decide +kernel) (by decide +kernel)
set_option maxRecDepth 20000 in
theorem gL_law_X4_passBeats : GoodIn wsL_law (wsV RL 145 RX4 yX4_passBeats wsX4_passBeats) := goodIn_app (goodIn_of _ (by decide +kernel)) ggL_law_X4_passBeats
set_option maxRecDepth 20000 in
theorem ggL_law_X3_beats : GoodIn wsL_law wsX3_beats := goodIn_r _ [395, 16, 396, 862, 863, 873, 874, 875, 876, 877, 878, 879] (by decide +kernel) (by decide +kernel)
set_option maxRecDepth 20000 in
theorem gL_law_X3_beats : GoodIn wsL_law (wsV RL 146 RX3 yX3_beats wsX3_beats) := goodIn_app (goodIn_of _ (by decide +kernel)) ggL_law_X3_beats
set_option maxRecDepth 20000 in
theorem ggL_law_X4_beats : GoodIn wsL_law wsX4_beats := goodIn_r _ [400, 53, 401, 402, 403, 5, 404, 93, 864, 865, 866, 867, 868, 869, 870, 871, 872] (by decide +kernel) (by decide +kernel)
set_option maxRecDepth 20000 in
theorem gL_law_X4_beats : GoodIn wsL_law (wsV RL 149 RX4 yX4_beats wsX4_beats) := goodIn_app (goodIn_of _ (by decide +kernel)) ggL_law_X4_beats
set_option maxRecDepth 20000 in
theorem ggL_law_X3_gates : GoodIn wsL_law wsX3_gates := goodIn_r _ [408, 16, 65, 862, 863, 873, 874, 875, 876, 877, 878, 879] (by decide +kernel) (by decide +kernel)
set_option maxRecDepth 20000 in
theorem gL_law_X3_gates : GoodIn wsL_law (wsV RL 150 RX3 yX3_gates wsX3_gates) := goodIn_app (goodIn_of _ (by decide +kernel)) ggL_law_X3_gates
set_option maxRecDepth 20000 in
theorem ggL_law_X4_gates : GoodIn wsL_law wsX4_gates := goodIn_r _ [412, 94, 401, 402, 403, 5, 404, 93, 864, 865, 866, 867, 868, 869, 870, 871, 872] (by decide +kernel) (by decide +kernel)
set_option maxRecDepth 20000 in
theorem gL_law_X4_gates : GoodIn wsL_law (wsV RL 153 RX4 yX4_gates wsX4_gates) := goodIn_app (goodIn_of _ (by decide +kernel)) ggL_law_X4_gates
set_option maxRecDepth 20000 in
theorem ggL_law_X3_geese : GoodIn wsL_law wsX3_geese := goodIn_r _ [416, 16, 115, 116, 862, 863, 873, 874, 875, 876, 877, 878, 879, 880, 881, 882, 883, 884] (by decide +kernel) (by decide +kernel)
set_option maxRecDepth 20000 in
theorem gL_law_X3_geese : GoodIn wsL_law (wsV RL 154 RX3 yX3_geese wsX3_geese) := goodIn_app (goodIn_of _ (by decide +kernel)) ggL_law_X3_geese
set_option maxRecDepth 20000 in
theorem ggL_law_X4_geese : GoodIn wsL_law wsX4_geese := goodIn_r _ [420, 135, 401, 402, 403, 5, 404, 93, 864, 865, 866, 867, 868, 869, 870, 871, 872] (by decide +kernel) (by decide +kernel)
set_option maxRecDepth 20000 in
theorem gL_law_X4_geese : GoodIn wsL_law (wsV RL 157 RX4 yX4_geese wsX4_geese) := goodIn_app (goodIn_of _ (by decide +kernel)) ggL_law_X4_geese
set_option maxRecDepth 20000 in
theorem ggL_law_X3_visitors : GoodIn wsL_law wsX3_visitors := goodIn_r _ [424, 16, 66, 67, 862, 863, 873, 874, 875, 876, 877, 878, 879, 885, 886, 887, 888, 889, 890] (by decide +kernel) (by decide +kernel)
set_option maxRecDepth 20000 in
theorem gL_law_X3_visitors : GoodIn wsL_law (wsV RL 158 RX3 yX3_visitors wsX3_visitors) := goodIn_app (goodIn_of _ (by decide +kernel)) ggL_law_X3_visitors
set_option maxRecDepth 20000 in
theorem ggL_law_X4_visitors : GoodIn wsL_law wsX4_visitors := goodIn_r _ [428, 95, 401, 402, 403, 5, 404, 93, 864, 865, 866, 867, 868, 869, 870, 871, 872] (by decide +kernel) (by decide +kernel)
set_option maxRecDepth 20000 in
theorem gL_law_X4_visitors : GoodIn wsL_law (wsV RL 161 RX4 yX4_visitors wsX4_visitors) := goodIn_app (goodIn_of _ (by decide +kernel)) ggL_law_X4_visitors
set_option maxRecDepth 20000 in
theorem ggL_law_X3_inFarm : GoodIn wsL_law wsX3_inFarm := goodIn_r _ [432, 16, 290, 291, 292, 15, 293, 30, 294, 295, 246, 247, 248, 249, 88, 862, 863, 873, 874, 875, 876, 877, 878, 879, 885, 886, 887, 888, 889, 890] (by decide +kernel) (by decide +kernel)
set_option maxRecDepth 20000 in
theorem gL_law_X3_inFarm : GoodIn wsL_law (wsV RL 162 RX3 yX3_inFarm wsX3_inFarm) := goodIn_app (goodIn_of _ (by decide +kernel)) ggL_law_X3_inFarm
