set_option maxRecDepth 20000 in
theorem ggL_law_X3_init : GoodIn wsL_law wsX3_init := goodIn_r _ [9, 10, 11, 12, 13, 14, 15, 16, 17, 18, 19, 20, 21, 22, 23, 24, 25, 26, 27, 28, 29, 30, 31, 32, 33, 34, 35, 36, 37, 38, 39, 40, 41, 42, 43, 44, 45, 873, 874, 875, 876, 877, 878, 879, 862, 863, 880, 881, 882, 883, 884, 885, 886, 887, 888, 889, 890] (by decide +kernel) (by decide +kernel)
set_option maxRecDepth 20000 in
theorem gL_law_X3_init : GoodIn wsL_law (wsX3_init) := ggL_law_X3_init
set_option maxRecDepth 20000 in
theorem ggL_law_X4_init : GoodIn wsL_law wsX4_init := goodIn_r _ [48, 49, 11, 12, 21, 50, 51, 52, 53, 54, 864, 865, 866, 867, 868, 869, 870, 871, 872] (by decide +kernel) (by decide +kernel)
set_option maxRecDepth 20000 in
theorem gL_law_X4_init : GoodIn wsL_law (wsX4_init) := ggL_law_X4_init
set_option maxRecDepth 20000 in
theorem ggL_law_L_addGate : GoodIn wsL_law wsL_addGate := goodIn_ca (goodIn_ca (goodIn_r _ [58, 59, 60, 61, 62, 63, 2, 64, 16, 65, 66, 67, 68, 69, 70, 71, 72, 73, 74, 75, 76, 77, 78, 79, 80, 81, 82, 83, 84, 85, 86, 15, 87, 88, 22, 862, 863, 873, 874, 875, 876, 877, 878, 879, 885, 886, 887, 888, 889, 890] (by decide +kernel) (by decide +kernel)) (goodIn_sub (fun _ h => List.mem_append_left _ (List.mem_append_left _ (List.mem_append_right _ h))) (by decide +kernel))) (goodIn_sub (fun _ h => List.mem_append_left _ (List.mem_append_right _ h)) (by decide +kernel))
set_option maxRecDepth 20000 in
theorem gL_law_L_addGate : GoodIn wsL_law (va_wsS RL 113 yL_addGate wsL_addGate) := goodIn_app (goodIn_of _ (by decide +kernel)) ggL_law_L_addGate
set_option maxRecDepth 20000 in
theorem ggL_law_X4_addGate : GoodIn wsL_law wsX4_addGate := goodIn_r _ [92, 93, 94, 95, 50, 96, 97, 5, 98, 99, 100, 101, 102, 864, 865, 866, 867, 868, 869, 870, 871, 872] (by decide +kernel) (by decide +kernel)
set_option maxRecDepth 20000 in
theorem gL_law_X4_addGate : GoodIn wsL_law (wsV RL 118 RX4 yX4_addGate wsX4_addGate) := goodIn_app (goodIn_of _ (by decide +kernel)) ggL_law_X4_addGate
set_option maxRecDepth 20000 in
theorem ggL_law_X4_thrown : GoodIn wsL_law wsX4_thrown := goodIn_r _ [106, 93, 864, 865, 866, 867, 868, 869, 870, 871, 872] (by decide +kernel) (by decide +kernel)
set_option maxRecDepth 20000 in
theorem gL_law_X4_thrown : GoodIn wsL_law (wsV RL 119 RX4 yX4_thrown wsX4_thrown) := goodIn_app (goodIn_of _ (by decide +kernel)) ggL_law_X4_thrown
set_option maxRecDepth 20000 in
theorem ggL_law_L_addGoose : GoodIn wsL_law wsL_addGoose := goodIn_ca (goodIn_ca (goodIn_ca (goodIn_r _ [109, 110, 59, 60, 111, 112, 113, 2, 114, 16, 115, 116, 117, 118, 119, 15, 120, 88, 121, 122, 123, 124, 125, 71, 72, 73, 74, 75, 76, 77, 78, 79, 80, 81, 82, 83, 126, 127, 128, 25, 129, 130, 34, 35, 862, 863, 873, 874, 875, 876, 877, 878, 879, 880, 881, 882, 883, 884] (by decide +kernel) (by decide +kernel)) (goodIn_sub (fun _ h => List.mem_append_right _ h) (by decide +kernel))) (goodIn_sub (fun _ h => List.mem_append_left _ (List.mem_append_left _ (List.mem_append_right _ h))) (by decide +kernel))) (goodIn_sub (fun _ h => List.mem_append_left _ (List.mem_append_right _ h)) (by decide +kernel))
set_option maxRecDepth 20000 in
theorem gL_law_L_addGoose : GoodIn wsL_law (va_wsS RL 123 yL_addGoose wsL_addGoose) := goodIn_app (goodIn_of _ (by decide +kernel)) ggL_law_L_addGoose
set_option maxRecDepth 20000 in
theorem ggL_law_X4_addGoose : GoodIn wsL_law wsX4_addGoose := goodIn_r _ [134, 93, 135, 51, 136, 137, 138, 5, 139, 94, 96, 97, 98, 99, 100, 101, 102, 140, 141, 142, 143, 53, 864, 865, 866, 867, 868, 869, 870, 871, 872] (by decide +kernel) (by decide +kernel)
set_option maxRecDepth 20000 in
theorem gL_law_X4_addGoose : GoodIn wsL_law (wsV RL 126 RX4 yX4_addGoose wsX4_addGoose) := goodIn_app (goodIn_of _ (by decide +kernel)) ggL_law_X4_addGoose
set_option maxRecDepth 20000 in
theorem ggL_law_L_arrive : GoodIn wsL_law wsL_arrive := goodIn_ca (goodIn_ca (goodIn_r _ [146, 59, 60, 147, 148, 149, 2, 150, 16, 65, 66, 67, 68, 69, 70, 71, 72, 73, 151, 152, 153, 74, 75, 76, 77, 78, 79, 80, 81, 82, 83, 154, 155, 156, 29, 157, 158, 41, 42, 43, 862, 863, 873, 874, 875, 876, 877, 878, 879, 885, 886, 887, 888, 889, 890] (by decide +kernel) (by decide +kernel)) (goodIn_sub (fun _ h => List.mem_append_left _ (List.mem_append_left _ (List.mem_append_right _ h))) (by decide +kernel))) (goodIn_sub (fun _ h => List.mem_append_left _ (List.mem_append_right _ h)) (by decide +kernel))
set_option maxRecDepth 20000 in
theorem gL_law_L_arrive : GoodIn wsL_law (va_wsS RL 127 yL_arrive wsL_arrive) := goodIn_app (goodIn_of _ (by decide +kernel)) ggL_law_L_arrive
set_option maxRecDepth 20000 in
theorem ggL_law_X4_arrive : GoodIn wsL_law wsX4_arrive := goodIn_r _ [162, 93, 94, 95, 52, 96, 97, 5, 98, 99, 100, 101, 102, 163, 164, 165, 166, 53, 864, 865, 866, 867, 868, 869, 870, 871, 872] (by decide +kernel) (by decide +kernel)
set_option maxRecDepth 20000 in
theorem gL_law_X4_arrive : GoodIn wsL_law (wsV RL 130 RX4 yX4_arrive wsX4_arrive) := goodIn_app (goodIn_of _ (by decide +kernel)) ggL_law_X4_arrive
set_option maxRecDepth 20000 in
theorem ggL_law_L_setRank : GoodIn wsL_law wsL_setRank := goodIn_ca (goodIn_ca (goodIn_r _ [169, 110, 59, 170, 171, 172, 2, 173, 16, 174, 117, 118, 119, 15, 120, 88, 121, 122, 123, 124, 125, 68, 69, 70, 71, 72, 73, 74, 75, 76, 77, 78, 862, 863, 873, 874, 875, 876, 877, 878, 879] (by decide +kernel) (by decide +kernel)) (goodIn_sub (fun _ h => List.mem_append_right _ h) (by decide +kernel))) (goodIn_sub (fun _ h => List.mem_append_left _ (List.mem_append_left _ (List.mem_append_right _ h))) (by decide +kernel))
set_option maxRecDepth 20000 in
theorem gL_law_L_setRank : GoodIn wsL_law (va_wsS RL 131 yL_setRank wsL_setRank) := goodIn_app (goodIn_of _ (by decide +kernel)) ggL_law_L_setRank
set_option maxRecDepth 20000 in
theorem ggL_law_X4_setRank : GoodIn wsL_law wsX4_setRank := goodIn_r _ [178, 93, 50, 136, 137, 138, 5, 139, 94, 96, 97, 98, 99, 100, 101, 102, 864, 865, 866, 867, 868, 869, 870, 871, 872] (by decide +kernel) (by decide +kernel)
set_option maxRecDepth 20000 in
theorem gL_law_X4_setRank : GoodIn wsL_law (wsV RL 133 RX4 yX4_setRank wsX4_setRank) := goodIn_app (goodIn_of _ (by decide +kernel)) ggL_law_X4_setRank
set_option maxRecDepth 20000 in
theorem ggL_law_L_lead : GoodIn wsL_law wsL_lead := goodIn_ca (goodIn_r _ [181, 110, 182, 183, 184, 2, 185, 16, 115, 186, 187, 188, 189, 25, 190, 130, 117, 118, 119, 15, 120, 88, 121, 122, 123, 124, 125, 862, 863, 873, 874, 875, 876, 877, 878, 879, 880, 881, 882, 883, 884] (by decide +kernel) (by decide +kernel)) (goodIn_sub (fun _ h => List.mem_append_right _ h) (by decide +kernel))
set_option maxRecDepth 20000 in
theorem gL_law_L_lead : GoodIn wsL_law (va_wsS RL 134 yL_lead wsL_lead) := goodIn_app (goodIn_of _ (by decide +kernel)) ggL_law_L_lead
set_option maxRecDepth 20000 in
theorem ggL_law_X4_lead : GoodIn wsL_law wsX4_lead := goodIn_r _ [194, 93, 51, 195, 196, 197, 5, 198, 135, 96, 97, 98, 136, 137, 138, 139, 94, 99, 100, 101, 102, 864, 865, 866, 867, 868, 869, 870, 871, 872] (by decide +kernel) (by decide +kernel)
set_option maxRecDepth 20000 in
theorem gL_law_X4_lead : GoodIn wsL_law (wsV RL 136 RX4 yX4_lead wsX4_lead) := goodIn_app (goodIn_of _ (by decide +kernel)) ggL_law_X4_lead
set_option maxRecDepth 20000 in
theorem ggL_law_L_giveCorns : GoodIn wsL_law wsL_giveCorns := goodIn_ca (goodIn_ca (goodIn_r _ [201, 110, 59, 202, 203, 204, 2, 205, 16, 66, 206, 207, 208, 209, 210, 211, 212, 213, 214, 215, 216, 217, 29, 218, 158, 121, 122, 123, 124, 125, 71, 72, 73, 74, 75, 76, 77, 78, 862, 863, 873, 874, 875, 876, 877, 878, 879, 885, 886, 887, 888, 889, 890] (by decide +kernel) (by decide +kernel)) (goodIn_sub (fun _ h => List.mem_append_right _ h) (by decide +kernel))) (goodIn_sub (fun _ h => List.mem_append_left _ (List.mem_append_left _ (List.mem_append_right _ h))) (by decide +kernel))
set_option maxRecDepth 20000 in
theorem gL_law_L_giveCorns : GoodIn wsL_law (va_wsS RL 137 yL_giveCorns wsL_giveCorns) := goodIn_app (goodIn_of _ (by decide +kernel)) ggL_law_L_giveCorns
set_option maxRecDepth 20000 in
theorem ggL_law_X4_giveCorns : GoodIn wsL_law wsX4_giveCorns := goodIn_r _ [222, 93, 223, 208, 209, 210, 224, 225, 226, 5, 227, 95, 96, 97, 98, 99, 100, 101, 102, 228, 229, 230, 231, 53, 163, 164, 165, 166, 864, 865, 866, 867, 868, 869, 870, 871, 872] (by decide +kernel) (by decide +kernel)
set_option maxRecDepth 20000 in
theorem gL_law_X4_giveCorns : GoodIn wsL_law (wsV RL 139 RX4 yX4_giveCorns wsX4_giveCorns) := goodIn_app (goodIn_of _ (by decide +kernel)) ggL_law_X4_giveCorns
set_option maxRecDepth 20000 in
theorem ggL_law_L_bribe : GoodIn wsL_law wsL_bribe := goodIn_ca (goodIn_ca (goodIn_r _ [234, 110, 60, 235, 236, 237, 2, 238, 16, 66, 206, 115, 186, 239, 240, 211, 212, 213, 214, 215, 216, 217, 29, 218, 158, 121, 122, 123, 124, 125, 241, 242, 243, 244, 187, 188, 189, 25, 190, 130, 245, 246, 247, 15, 248, 30, 249, 88, 79, 80, 81, 82, 83, 250, 251, 252, 253, 254, 26, 255, 256, 257, 258, 259, 37, 36, 35, 260, 261, 209, 262, 862, 863, 873, 874, 875, 876, 877, 878, 879, 885, 886, 887, 888, 889, 890, 880, 881, 882, 883, 884] (by decide +kernel) (by decide +kernel)) (goodIn_sub (fun _ h => List.mem_append_right _ h) (by decide +kernel))) (goodIn_sub (fun _ h => List.mem_append_left _ (List.mem_append_right _ h)) (by decide +kernel))
set_option maxRecDepth 20000 in
theorem gL_law_L_bribe : GoodIn wsL_law (va_wsS RL 140 yL_bribe wsL_bribe) := goodIn_app (goodIn_of _ (by decide +kernel)) ggL_law_L_bribe
set_option maxRecDepth 20000 in
theorem ggL_law_X4_bribe : GoodIn wsL_law wsX4_bribe := goodIn_r _ [266, 93, 51, 224, 225, 226, 5, 227, 95, 96, 97, 98, 195, 196, 197, 198, 135, 99, 100, 101, 102, 228, 229, 230, 231, 53, 267, 268, 269, 270, 94, 271, 272, 273, 274, 275, 261, 209, 262, 163, 164, 165, 166, 140, 141, 142, 143, 276, 277, 278, 279, 864, 865, 866, 867, 868, 869, 870, 871, 872] (by decide +kernel) (by decide +kernel)
set_option maxRecDepth 20000 in
theorem gL_law_X4_bribe : GoodIn wsL_law (wsV RL 142 RX4 yX4_bribe wsX4_bribe) := goodIn_app (goodIn_of _ (by decide +kernel)) ggL_law_X4_bribe
set_option maxRecDepth 20000 in
theorem ggL_law_L_passBeats : GoodIn wsL_law wsL_passBeats := goodIn_ca (goodIn_r _ [282, 59, 283, 284, 285, 2, 286, 16, 287, 288, 289, 71, 72, 73, 74, 75, 76, 77, 78, 290, 291, 292, 15, 293, 30, 294, 295, 246, 247, 248, 249, 88, 296, 297, 298, 299, 300, 301, 302, 303, 26, 304, 305, 306, 307, 25, 308, 130, 36, 309, 310, 311, 312, 313, 314, 315, 254, 316, 317, 318, 319, 320, 321, 322, 323, 324, 22, 325, 261, 209, 262, 326, 118, 119, 120, 327, 328, 329, 330, 35, 331, 332, 333, 334, 34, 335, 336, 337, 338, 339, 208, 210, 340, 341, 342, 343, 344, 188, 189, 190, 345, 251, 252, 253, 255, 256, 257, 258, 259, 37, 260, 346, 347, 348, 349, 350, 29, 351, 45, 42, 352, 44, 862, 863, 873, 874, 875, 876, 877, 878, 879, 885, 886, 887, 888, 889, 890, 880, 881, 882, 883, 884] (by decide +kernel) (by decide +kernel)) (goodIn_sub (fun _ h => List.mem_append_left _ (List.mem_append_left _ (List.mem_append_right _ h))) (by decide +kernel))
set_option maxRecDepth 20000 in
theorem gL_law_L_passBeats : GoodIn wsL_law (va_wsS RL 143 yL_passBeats wsL_passBeats) := goodIn_app (goodIn_of _ (by decide +kernel)) ggL_law_L_passBeats
set_option maxRecDepth 20000 in
theorem ggL_law_X4_passBeats : GoodIn wsL_law wsX4_passBeats := goodIn_r _ [356, 93, 96, 97, 5, 98, 99, 100, 101, 102, 357, 358, 359, 360, 95, 267, 268, 269, 270, 94, 228, 229, 230, 231, 53, 361, 362, 363, 364, 365, 366, 367, 368, 135, 276, 277, 278, 279, 140, 141, 142, 143, 369, 370, 371, 372, 52, 223, 208, 209, 210, 275, 261, 262, 163, 164, 165, 166, 373, 374, 375, 376, 377, 378, 379, 380, 51, 381, 382, 383, 384, 50, 385, 386, 387, 388, 271, 272, 273, 274, 389, 390, 391, 864, 865, 866, 867, 868, 869, 870, 871, 872] (by decide +kernel) (by decide +kernel)
set_option maxRecDepth 20000 in
theorem gL_law_X4_passBeats : GoodIn wsL_law (wsV RL 145 RX4 yX4_passBeats wsX4_passBeats) := goodIn_app (goodIn_of _ (by decide +kernel)) ggL_law_X4_passBeats
set_option maxRecDepth 20000 in
theorem ggL_law_X3_beats : GoodIn wsL_law wsX3_beats := goodIn_r _ [395, 16, 396, 862, 863, 873, 874, 875, 876, 877, 878, 879] (by decide +kernel) (by decide +kernel)
set_option maxRecDepth 20000 in
theorem gL_law_X3_beats : GoodIn wsL_law (wsV RL 146 RX3 yX3_beats wsX3_beats) := goodIn_app (goodIn_of _ (by decide +kernel)) ggL_law_X3_beats
set_option maxRecDepth 20000 in
theorem ggL_law_X4_beats : GoodIn wsL_law wsX4_beats := goodIn_r _ [400, 53, 401, 402, 403, 5, 404, 93, 864, 865, 866, 867, 868, 869, 870, 871, 872] (by decide +kernel) (by decide +kernel)
set_option maxRecDepth 20000 in
theorem gL_law_X4_beats : GoodIn wsL_law (wsV RL 149 RX4 yX4_beats wsX4_beats) := goodIn_app (goodIn_of _ (by decide +kernel)) ggL_law_X4_beats
set_option maxRecDepth 20000 in
theorem ggL_law_X3_gates : GoodIn wsL_law wsX3_gates := goodIn_r _ [408, 16, 65, 862, 863, 873, 874, 875, 876, 877, 878, 879] (by decide +kernel) (by decide +kernel)
set_option maxRecDepth 20000 in
theorem gL_law_X3_gates : GoodIn wsL_law (wsV RL 150 RX3 yX3_gates wsX3_gates) := goodIn_app (goodIn_of _ (by decide +kernel)) ggL_law_X3_gates
set_option maxRecDepth 20000 in
theorem ggL_law_X4_gates : GoodIn wsL_law wsX4_gates := goodIn_r _ [412, 94, 401, 402, 403, 5, 404, 93, 864, 865, 866, 867, 868, 869, 870, 871, 872] (by decide +kernel) (by decide +kernel)
set_option maxRecDepth 20000 in
theorem gL_law_X4_gates : GoodIn wsL_law (wsV RL 153 RX4 yX4_gates wsX4_gates) := goodIn_app (goodIn_of _ (by decide +kernel)) ggL_law_X4_gates
set_option maxRecDepth 20000 in
theorem ggL_law_X3_geese : GoodIn wsL_law wsX3_geese := goodIn_r _ [416, 16, 115, 116, 862, 863, 873, 874, 875, 876, 877, 878, 879, 880, 881, 882, 883, 884] (by decide +kernel) (by decide +kernel)
set_option maxRecDepth 20000 in
theorem gL_law_X3_geese : GoodIn wsL_law (wsV RL 154 RX3 yX3_geese wsX3_geese) := goodIn_app (goodIn_of _ (by decide +kernel)) ggL_law_X3_geese
set_option maxRecDepth 20000 in
theorem ggL_law_X4_geese : GoodIn wsL_law wsX4_geese := goodIn_r _ [420, 135, 401, 402, 403, 5, 404, 93, 864, 865, 866, 867, 868, 869, 870, 871, 872] (by decide +kernel) (by decide +kernel)
set_option maxRecDepth 20000 in
theorem gL_law_X4_geese : GoodIn wsL_law (wsV RL 157 RX4 yX4_geese wsX4_geese) := goodIn_app (goodIn_of _ (by decide +kernel)) ggL_law_X4_geese
set_option maxRecDepth 20000 in
theorem ggL_law_X3_visitors : GoodIn wsL_law wsX3_visitors := goodIn_r _ [424, 16, 66, 67, 862, 863, 873, 874, 875, 876, 877, 878, 879, 885, 886, 887, 888, 889, 890] (by decide +kernel) (by decide +kernel)
set_option maxRecDepth 20000 in
theorem gL_law_X3_visitors : GoodIn wsL_law (wsV RL 158 RX3 yX3_visitors wsX3_visitors) := goodIn_app (goodIn_of _ (by decide +kernel)) ggL_law_X3_visitors
set_option maxRecDepth 20000 in
theorem ggL_law_X4_visitors : GoodIn wsL_law wsX4_visitors := goodIn_r _ [428, 95, 401, 402, 403, 5, 404, 93, 864, 865, 866, 867, 868, 869, 870, 871, 872] (by decide +kernel) (by decide +kernel)
set_option maxRecDepth 20000 in
theorem gL_law_X4_visitors : GoodIn wsL_law (wsV RL 161 RX4 yX4_visitors wsX4_visitors) := goodIn_app (goodIn_of _ (by decide +kernel)) ggL_law_X4_visitors
set_option maxRecDepth 20000 in
theorem ggL_law_X3_inFarm : GoodIn wsL_law wsX3_inFarm := goodIn_r _ [432, 16, 290, 291, 292, 15, 293, 30, 294, 295, 246, 247, 248, 249, 88, 862, 863, 873, 874, 875, 876, 877, 878, 879, 885, 886, 887, 888, 889, 890] (by decide +kernel) (by decide +kernel)
set_option maxRecDepth 20000 in
theorem gL_law_X3_inFarm : GoodIn wsL_law (wsV RL 162 RX3 yX3_inFarm wsX3_inFarm) := goodIn_app (goodIn_of _ (by decide +kernel)) ggL_law_X3_inFarm
set_option maxRecDepth 20000 in
theorem ggL_law_X4_inFarm : GoodIn wsL_law wsX4_inFarm := goodIn_r _ [436, 357, 358, 359, 5, 360, 95, 267, 268, 269, 270, 94, 228, 229, 230, 231, 53, 401, 402, 403, 404, 93, 864, 865, 866, 867, 868, 869, 870, 871, 872] (by decide +kernel) (by decide +kernel)
set_option maxRecDepth 20000 in
theorem gL_law_X4_inFarm : GoodIn wsL_law (wsV RL 165 RX4 yX4_inFarm wsX4_inFarm) := goodIn_app (goodIn_of _ (by decide +kernel)) ggL_law_X4_inFarm
set_option maxRecDepth 20000 in
theorem ggL_law_X3_bribes : GoodIn wsL_law wsX3_bribes := goodIn_r _ [440, 16, 441, 862, 863, 873, 874, 875, 876, 877, 878, 879] (by decide +kernel) (by decide +kernel)
set_option maxRecDepth 20000 in
theorem gL_law_X3_bribes : GoodIn wsL_law (wsV RL 166 RX3 yX3_bribes wsX3_bribes) := goodIn_app (goodIn_of _ (by decide +kernel)) ggL_law_X3_bribes
set_option maxRecDepth 20000 in
theorem ggL_law_X4_bribes : GoodIn wsL_law wsX4_bribes := goodIn_r _ [445, 53, 401, 402, 403, 5, 404, 93, 864, 865, 866, 867, 868, 869, 870, 871, 872] (by decide +kernel) (by decide +kernel)
set_option maxRecDepth 20000 in
theorem gL_law_X4_bribes : GoodIn wsL_law (wsV RL 169 RX4 yX4_bribes wsX4_bribes) := goodIn_app (goodIn_of _ (by decide +kernel)) ggL_law_X4_bribes
set_option maxRecDepth 20000 in
theorem ggL_law_X3_retreats : GoodIn wsL_law wsX3_retreats := goodIn_r _ [449, 16, 450, 862, 863, 873, 874, 875, 876, 877, 878, 879] (by decide +kernel) (by decide +kernel)
set_option maxRecDepth 20000 in
theorem gL_law_X3_retreats : GoodIn wsL_law (wsV RL 170 RX3 yX3_retreats wsX3_retreats) := goodIn_app (goodIn_of _ (by decide +kernel)) ggL_law_X3_retreats
set_option maxRecDepth 20000 in
theorem ggL_law_X4_retreats : GoodIn wsL_law wsX4_retreats := goodIn_r _ [454, 53, 401, 402, 403, 5, 404, 93, 864, 865, 866, 867, 868, 869, 870, 871, 872] (by decide +kernel) (by decide +kernel)
set_option maxRecDepth 20000 in
theorem gL_law_X4_retreats : GoodIn wsL_law (wsV RL 173 RX4 yX4_retreats wsX4_retreats) := goodIn_app (goodIn_of _ (by decide +kernel)) ggL_law_X4_retreats
set_option maxRecDepth 20000 in
theorem ggL_law_L_rankOf : GoodIn wsL_law wsL_rankOf := goodIn_ca (goodIn_r _ [457, 110, 458, 459, 460, 2, 461, 16, 174, 117, 118, 119, 15, 120, 88, 121, 122, 123, 124, 125, 862, 863, 873, 874, 875, 876, 877, 878, 879] (by decide +kernel) (by decide +kernel)) (goodIn_sub (fun _ h => List.mem_append_right _ h) (by decide +kernel))
set_option maxRecDepth 20000 in
theorem gL_law_L_rankOf : GoodIn wsL_law (va_wsS RL 174 yL_rankOf wsL_rankOf) := goodIn_app (goodIn_of _ (by decide +kernel)) ggL_law_L_rankOf
set_option maxRecDepth 20000 in
theorem ggL_law_X4_rankOf : GoodIn wsL_law wsX4_rankOf := goodIn_r _ [465, 93, 50, 136, 137, 138, 5, 139, 94, 96, 97, 98, 99, 100, 101, 102, 864, 865, 866, 867, 868, 869, 870, 871, 872] (by decide +kernel) (by decide +kernel)
set_option maxRecDepth 20000 in
theorem gL_law_X4_rankOf : GoodIn wsL_law (wsV RL 176 RX4 yX4_rankOf wsX4_rankOf) := goodIn_app (goodIn_of _ (by decide +kernel)) ggL_law_X4_rankOf
set_option maxRecDepth 20000 in
theorem ggL_law_L_awakeAt : GoodIn wsL_law wsL_awakeAt := goodIn_ca (goodIn_r _ [468, 110, 469, 470, 471, 2, 472, 16, 115, 117, 118, 119, 15, 120, 88, 121, 122, 123, 124, 125, 473, 474, 475, 25, 476, 130, 331, 332, 333, 334, 34, 36, 862, 863, 873, 874, 875, 876, 877, 878, 879, 880, 881, 882, 883, 884] (by decide +kernel) (by decide +kernel)) (goodIn_sub (fun _ h => List.mem_append_right _ h) (by decide +kernel))
set_option maxRecDepth 20000 in
theorem gL_law_L_awakeAt : GoodIn wsL_law (va_wsS RL 177 yL_awakeAt wsL_awakeAt) := goodIn_app (goodIn_of _ (by decide +kernel)) ggL_law_L_awakeAt
set_option maxRecDepth 20000 in
theorem ggL_law_X4_awakeAt : GoodIn wsL_law wsX4_awakeAt := goodIn_r _ [480, 93, 136, 137, 138, 5, 139, 94, 96, 97, 98, 481, 482, 483, 484, 135, 377, 378, 379, 380, 51, 276, 277, 278, 279, 53, 99, 100, 101, 102, 864, 865, 866, 867, 868, 869, 870, 871, 872] (by decide +kernel) (by decide +kernel)
set_option maxRecDepth 20000 in
theorem gL_law_X4_awakeAt : GoodIn wsL_law (wsV RL 179 RX4 yX4_awakeAt wsX4_awakeAt) := goodIn_app (goodIn_of _ (by decide +kernel)) ggL_law_X4_awakeAt
set_option maxRecDepth 20000 in
theorem ggL_law_L_hissOf : GoodIn wsL_law wsL_hissOf := goodIn_ca (goodIn_ca (goodIn_r _ [487, 110, 59, 488, 489, 490, 2, 491, 16, 117, 118, 119, 15, 120, 88, 121, 122, 123, 124, 125, 68, 69, 70, 71, 72, 73, 74, 75, 76, 77, 78, 492, 318, 319, 320, 26, 321, 322, 323, 324, 22, 325, 261, 209, 262, 326, 327, 328, 329, 25, 330, 130, 35, 331, 332, 333, 334, 34, 36, 862, 863, 873, 874, 875, 876, 877, 878, 879, 880, 881, 882, 883, 884] (by decide +kernel) (by decide +kernel)) (goodIn_sub (fun _ h => List.mem_append_right _ h) (by decide +kernel))) (goodIn_sub (fun _ h => List.mem_append_left _ (List.mem_append_left _ (List.mem_append_right _ h))) (by decide +kernel))
set_option maxRecDepth 20000 in
theorem gL_law_L_hissOf : GoodIn wsL_law (va_wsS RL 180 yL_hissOf wsL_hissOf) := goodIn_app (goodIn_of _ (by decide +kernel)) ggL_law_L_hissOf
set_option maxRecDepth 20000 in
theorem ggL_law_X4_hissOf : GoodIn wsL_law wsX4_hissOf := goodIn_r _ [496, 93, 136, 137, 138, 5, 139, 94, 96, 97, 98, 99, 100, 101, 102, 373, 374, 375, 376, 135, 377, 378, 379, 380, 51, 276, 277, 278, 279, 53, 381, 382, 383, 384, 50, 275, 261, 209, 262, 864, 865, 866, 867, 868, 869, 870, 871, 872] (by decide +kernel) (by decide +kernel)
set_option maxRecDepth 20000 in
theorem gL_law_X4_hissOf : GoodIn wsL_law (wsV RL 182 RX4 yX4_hissOf wsX4_hissOf) := goodIn_app (goodIn_of _ (by decide +kernel)) ggL_law_X4_hissOf
set_option maxRecDepth 20000 in
theorem ggL_law_X3_loudestGate : GoodIn wsL_law wsX3_loudestGate := goodIn_r _ [500, 16, 65, 492, 318, 319, 15, 320, 26, 321, 322, 323, 324, 22, 325, 261, 209, 262, 326, 118, 119, 120, 88, 327, 328, 329, 25, 330, 130, 35, 331, 332, 333, 334, 34, 36, 862, 863, 873, 874, 875, 876, 877, 878, 879, 880, 881, 882, 883, 884] (by decide +kernel) (by decide +kernel)
set_option maxRecDepth 20000 in
theorem gL_law_X3_loudestGate : GoodIn wsL_law (wsV RL 183 RX3 yX3_loudestGate wsX3_loudestGate) := goodIn_app (goodIn_of _ (by decide +kernel)) ggL_law_X3_loudestGate
set_option maxRecDepth 20000 in
theorem ggL_law_X4_loudestGate : GoodIn wsL_law wsX4_loudestGate := goodIn_r _ [504, 505, 506, 507, 5, 508, 94, 373, 374, 375, 376, 135, 377, 378, 379, 380, 51, 276, 277, 278, 279, 53, 381, 382, 383, 384, 50, 275, 261, 209, 262, 401, 402, 403, 404, 93, 864, 865, 866, 867, 868, 869, 870, 871, 872] (by decide +kernel) (by decide +kernel)
set_option maxRecDepth 20000 in
theorem gL_law_X4_loudestGate : GoodIn wsL_law (wsV RL 186 RX4 yX4_loudestGate wsX4_loudestGate) := goodIn_app (goodIn_of _ (by decide +kernel)) ggL_law_X4_loudestGate
set_option maxRecDepth 20000 in
theorem ggL_law_L_gateOf : GoodIn wsL_law wsL_gateOf := goodIn_ca (goodIn_r _ [511, 110, 512, 513, 514, 2, 515, 16, 115, 186, 241, 242, 243, 244, 187, 188, 189, 25, 190, 130, 121, 122, 123, 124, 125, 862, 863, 873, 874, 875, 876, 877, 878, 879, 880, 881, 882, 883, 884] (by decide +kernel) (by decide +kernel)) (goodIn_sub (fun _ h => List.mem_append_right _ h) (by decide +kernel))
set_option maxRecDepth 20000 in
theorem gL_law_L_gateOf : GoodIn wsL_law (va_wsS RL 187 yL_gateOf wsL_gateOf) := goodIn_app (goodIn_of _ (by decide +kernel)) ggL_law_L_gateOf
set_option maxRecDepth 20000 in
theorem ggL_law_X4_gateOf : GoodIn wsL_law wsX4_gateOf := goodIn_r _ [519, 93, 51, 195, 196, 197, 5, 198, 135, 96, 97, 98, 99, 100, 101, 102, 864, 865, 866, 867, 868, 869, 870, 871, 872] (by decide +kernel) (by decide +kernel)
set_option maxRecDepth 20000 in
theorem gL_law_X4_gateOf : GoodIn wsL_law (wsV RL 189 RX4 yX4_gateOf wsX4_gateOf) := goodIn_app (goodIn_of _ (by decide +kernel)) ggL_law_X4_gateOf
set_option maxRecDepth 20000 in
theorem ggL_law_L_temperOf : GoodIn wsL_law wsL_temperOf := goodIn_ca (goodIn_r _ [522, 110, 523, 524, 525, 2, 526, 16, 115, 240, 241, 242, 243, 244, 187, 188, 189, 25, 190, 130, 121, 122, 123, 124, 125, 862, 863, 873, 874, 875, 876, 877, 878, 879, 880, 881, 882, 883, 884] (by decide +kernel) (by decide +kernel)) (goodIn_sub (fun _ h => List.mem_append_right _ h) (by decide +kernel))
set_option maxRecDepth 20000 in
theorem gL_law_L_temperOf : GoodIn wsL_law (va_wsS RL 190 yL_temperOf wsL_temperOf) := goodIn_app (goodIn_of _ (by decide +kernel)) ggL_law_L_temperOf
set_option maxRecDepth 20000 in
theorem ggL_law_X4_temperOf : GoodIn wsL_law wsX4_temperOf := goodIn_r _ [530, 531, 532, 533, 5, 534, 93, 195, 196, 197, 198, 135, 96, 97, 98, 276, 277, 278, 279, 53, 99, 100, 101, 102, 864, 865, 866, 867, 868, 869, 870, 871, 872] (by decide +kernel) (by decide +kernel)
set_option maxRecDepth 20000 in
theorem gL_law_X4_temperOf : GoodIn wsL_law (wsV RL 192 RX4 yX4_temperOf wsX4_temperOf) := goodIn_app (goodIn_of _ (by decide +kernel)) ggL_law_X4_temperOf
set_option maxRecDepth 20000 in
theorem ggL_law_L_calmFor : GoodIn wsL_law wsL_calmFor := goodIn_ca (goodIn_r _ [537, 110, 538, 539, 540, 2, 541, 16, 115, 542, 241, 242, 243, 244, 187, 188, 189, 25, 190, 130, 121, 122, 123, 124, 125, 862, 863, 873, 874, 875, 876, 877, 878, 879, 880, 881, 882, 883, 884] (by decide +kernel) (by decide +kernel)) (goodIn_sub (fun _ h => List.mem_append_right _ h) (by decide +kernel))
set_option maxRecDepth 20000 in
theorem gL_law_L_calmFor : GoodIn wsL_law (va_wsS RL 193 yL_calmFor wsL_calmFor) := goodIn_app (goodIn_of _ (by decide +kernel)) ggL_law_L_calmFor
set_option maxRecDepth 20000 in
theorem ggL_law_X4_calmFor : GoodIn wsL_law wsX4_calmFor := goodIn_r _ [546, 531, 532, 533, 5, 534, 93, 195, 196, 197, 198, 135, 96, 97, 98, 276, 277, 278, 279, 53, 99, 100, 101, 102, 864, 865, 866, 867, 868, 869, 870, 871, 872] (by decide +kernel) (by decide +kernel)
set_option maxRecDepth 20000 in
theorem gL_law_X4_calmFor : GoodIn wsL_law (wsV RL 195 RX4 yX4_calmFor wsX4_calmFor) := goodIn_app (goodIn_of _ (by decide +kernel)) ggL_law_X4_calmFor
set_option maxRecDepth 20000 in
theorem ggL_law_L_eatenBy : GoodIn wsL_law wsL_eatenBy := goodIn_ca (goodIn_r _ [549, 110, 550, 551, 552, 2, 553, 16, 115, 554, 241, 242, 243, 244, 187, 188, 189, 25, 190, 130, 121, 122, 123, 124, 125, 862, 863, 873, 874, 875, 876, 877, 878, 879, 880, 881, 882, 883, 884] (by decide +kernel) (by decide +kernel)) (goodIn_sub (fun _ h => List.mem_append_right _ h) (by decide +kernel))
set_option maxRecDepth 20000 in
theorem gL_law_L_eatenBy : GoodIn wsL_law (va_wsS RL 196 yL_eatenBy wsL_eatenBy) := goodIn_app (goodIn_of _ (by decide +kernel)) ggL_law_L_eatenBy
set_option maxRecDepth 20000 in
theorem ggL_law_X4_eatenBy : GoodIn wsL_law wsX4_eatenBy := goodIn_r _ [558, 531, 532, 533, 5, 534, 93, 195, 196, 197, 198, 135, 96, 97, 98, 276, 277, 278, 279, 53, 99, 100, 101, 102, 864, 865, 866, 867, 868, 869, 870, 871, 872] (by decide +kernel) (by decide +kernel)
set_option maxRecDepth 20000 in
theorem gL_law_X4_eatenBy : GoodIn wsL_law (wsV RL 198 RX4 yX4_eatenBy wsX4_eatenBy) := goodIn_app (goodIn_of _ (by decide +kernel)) ggL_law_X4_eatenBy
set_option maxRecDepth 20000 in
theorem ggL_law_L_passedBy : GoodIn wsL_law wsL_passedBy := goodIn_ca (goodIn_r _ [561, 110, 562, 563, 564, 2, 565, 16, 66, 239, 211, 212, 213, 214, 215, 216, 217, 29, 218, 158, 121, 122, 123, 124, 125, 862, 863, 873, 874, 875, 876, 877, 878, 879, 885, 886, 887, 888, 889, 890] (by decide +kernel) (by decide +kernel)) (goodIn_sub (fun _ h => List.mem_append_right _ h) (by decide +kernel))
set_option maxRecDepth 20000 in
theorem gL_law_L_passedBy : GoodIn wsL_law (va_wsS RL 199 yL_passedBy wsL_passedBy) := goodIn_app (goodIn_of _ (by decide +kernel)) ggL_law_L_passedBy
set_option maxRecDepth 20000 in
theorem ggL_law_X4_passedBy : GoodIn wsL_law wsX4_passedBy := goodIn_r _ [569, 570, 571, 572, 5, 573, 93, 224, 225, 226, 227, 95, 96, 97, 98, 228, 229, 230, 231, 53, 99, 100, 101, 102, 864, 865, 866, 867, 868, 869, 870, 871, 872] (by decide +kernel) (by decide +kernel)
set_option maxRecDepth 20000 in
theorem gL_law_X4_passedBy : GoodIn wsL_law (wsV RL 201 RX4 yX4_passedBy wsX4_passedBy) := goodIn_app (goodIn_of _ (by decide +kernel)) ggL_law_X4_passedBy
set_option maxRecDepth 20000 in
theorem ggL_law_L_isInFarm : GoodIn wsL_law wsL_isInFarm := goodIn_ca (goodIn_r _ [576, 110, 577, 578, 579, 2, 580, 16, 211, 212, 213, 214, 66, 215, 216, 217, 29, 218, 158, 121, 122, 123, 124, 125, 245, 246, 247, 15, 248, 30, 249, 88, 862, 863, 873, 874, 875, 876, 877, 878, 879, 885, 886, 887, 888, 889, 890] (by decide +kernel) (by decide +kernel)) (goodIn_sub (fun _ h => List.mem_append_right _ h) (by decide +kernel))
set_option maxRecDepth 20000 in
theorem gL_law_L_isInFarm : GoodIn wsL_law (va_wsS RL 202 yL_isInFarm wsL_isInFarm) := goodIn_app (goodIn_of _ (by decide +kernel)) ggL_law_L_isInFarm
set_option maxRecDepth 20000 in
theorem ggL_law_X4_isInFarm : GoodIn wsL_law wsX4_isInFarm := goodIn_r _ [584, 93, 224, 225, 226, 5, 227, 95, 96, 97, 98, 267, 268, 269, 270, 94, 228, 229, 230, 231, 53, 864, 865, 866, 867, 868, 869, 870, 871, 872] (by decide +kernel) (by decide +kernel)
set_option maxRecDepth 20000 in
theorem gL_law_X4_isInFarm : GoodIn wsL_law (wsV RL 204 RX4 yX4_isInFarm wsX4_isInFarm) := goodIn_app (goodIn_of _ (by decide +kernel)) ggL_law_X4_isInFarm
set_option maxRecDepth 20000 in
theorem ggL_law_L_cornsOf : GoodIn wsL_law wsL_cornsOf := goodIn_ca (goodIn_r _ [587, 110, 588, 589, 590, 2, 591, 16, 66, 206, 211, 212, 213, 214, 215, 216, 217, 29, 218, 158, 121, 122, 123, 124, 125, 862, 863, 873, 874, 875, 876, 877, 878, 879, 885, 886, 887, 888, 889, 890] (by decide +kernel) (by decide +kernel)) (goodIn_sub (fun _ h => List.mem_append_right _ h) (by decide +kernel))
set_option maxRecDepth 20000 in
theorem gL_law_L_cornsOf : GoodIn wsL_law (va_wsS RL 205 yL_cornsOf wsL_cornsOf) := goodIn_app (goodIn_of _ (by decide +kernel)) ggL_law_L_cornsOf
set_option maxRecDepth 20000 in
theorem ggL_law_X4_cornsOf : GoodIn wsL_law wsX4_cornsOf := goodIn_r _ [595, 570, 571, 572, 5, 573, 93, 224, 225, 226, 227, 95, 96, 97, 98, 228, 229, 230, 231, 53, 99, 100, 101, 102, 864, 865, 866, 867, 868, 869, 870, 871, 872] (by decide +kernel) (by decide +kernel)
set_option maxRecDepth 20000 in
theorem gL_law_X4_cornsOf : GoodIn wsL_law (wsV RL 207 RX4 yX4_cornsOf wsX4_cornsOf) := goodIn_app (goodIn_of _ (by decide +kernel)) ggL_law_X4_cornsOf
set_option maxRecDepth 20000 in
theorem ggL_law_L_nerveOf : GoodIn wsL_law wsL_nerveOf := goodIn_ca (goodIn_r _ [598, 110, 599, 600, 601, 2, 602, 16, 66, 603, 211, 212, 213, 214, 215, 216, 217, 29, 218, 158, 121, 122, 123, 124, 125, 862, 863, 873, 874, 875, 876, 877, 878, 879, 885, 886, 887, 888, 889, 890] (by decide +kernel) (by decide +kernel)) (goodIn_sub (fun _ h => List.mem_append_right _ h) (by decide +kernel))
set_option maxRecDepth 20000 in
theorem gL_law_L_nerveOf : GoodIn wsL_law (va_wsS RL 208 yL_nerveOf wsL_nerveOf) := goodIn_app (goodIn_of _ (by decide +kernel)) ggL_law_L_nerveOf
set_option maxRecDepth 20000 in
theorem ggL_law_X4_nerveOf : GoodIn wsL_law wsX4_nerveOf := goodIn_r _ [607, 570, 571, 572, 5, 573, 93, 224, 225, 226, 227, 95, 96, 97, 98, 228, 229, 230, 231, 53, 99, 100, 101, 102, 864, 865, 866, 867, 868, 869, 870, 871, 872] (by decide +kernel) (by decide +kernel)
set_option maxRecDepth 20000 in
theorem gL_law_X4_nerveOf : GoodIn wsL_law (wsV RL 210 RX4 yX4_nerveOf wsX4_nerveOf) := goodIn_app (goodIn_of _ (by decide +kernel)) ggL_law_X4_nerveOf
set_option maxRecDepth 20000 in
theorem ggL_law_L_retreatOf : GoodIn wsL_law wsL_retreatOf := goodIn_ca (goodIn_r _ [610, 110, 611, 612, 613, 2, 614, 16, 66, 615, 211, 212, 213, 214, 215, 216, 217, 29, 218, 158, 121, 122, 123, 124, 125, 862, 863, 873, 874, 875, 876, 877, 878, 879, 885, 886, 887, 888, 889, 890] (by decide +kernel) (by decide +kernel)) (goodIn_sub (fun _ h => List.mem_append_right _ h) (by decide +kernel))
set_option maxRecDepth 20000 in
theorem gL_law_L_retreatOf : GoodIn wsL_law (va_wsS RL 211 yL_retreatOf wsL_retreatOf) := goodIn_app (goodIn_of _ (by decide +kernel)) ggL_law_L_retreatOf
set_option maxRecDepth 20000 in
theorem ggL_law_X4_retreatOf : GoodIn wsL_law wsX4_retreatOf := goodIn_r _ [619, 570, 571, 572, 5, 573, 93, 224, 225, 226, 227, 95, 96, 97, 98, 228, 229, 230, 231, 53, 99, 100, 101, 102, 864, 865, 866, 867, 868, 869, 870, 871, 872] (by decide +kernel) (by decide +kernel)
set_option maxRecDepth 20000 in
theorem gL_law_X4_retreatOf : GoodIn wsL_law (wsV RL 213 RX4 yX4_retreatOf wsX4_retreatOf) := goodIn_app (goodIn_of _ (by decide +kernel)) ggL_law_X4_retreatOf
set_option maxRecDepth 20000 in
theorem ggL_law_L_hissAt : GoodIn wsL_law wsL_hissAt := goodIn_ca (goodIn_r _ [622, 110, 623, 624, 625, 2, 626, 16, 211, 212, 213, 214, 66, 215, 216, 217, 29, 218, 158, 121, 122, 123, 124, 125, 627, 628, 629, 15, 630, 30, 249, 314, 317, 318, 319, 320, 26, 321, 322, 323, 324, 22, 325, 261, 209, 262, 326, 118, 119, 120, 88, 327, 328, 329, 25, 330, 130, 35, 331, 332, 333, 334, 34, 36, 862, 863, 873, 874, 875, 876, 877, 878, 879, 885, 886, 887, 888, 889, 890, 880, 881, 882, 883, 884] (by decide +kernel) (by decide +kernel)) (goodIn_sub (fun _ h => List.mem_append_right _ h) (by decide +kernel))
set_option maxRecDepth 20000 in
theorem gL_law_L_hissAt : GoodIn wsL_law (va_wsS RL 214 yL_hissAt wsL_hissAt) := goodIn_app (goodIn_of _ (by decide +kernel)) ggL_law_L_hissAt
set_option maxRecDepth 20000 in
theorem ggL_law_X4_hissAt : GoodIn wsL_law wsX4_hissAt := goodIn_r _ [634, 93, 224, 225, 226, 5, 227, 95, 96, 97, 98, 635, 636, 637, 638, 52, 267, 268, 269, 270, 94, 228, 229, 230, 231, 53, 373, 374, 375, 376, 135, 377, 378, 379, 380, 51, 276, 277, 278, 279, 381, 382, 383, 384, 50, 275, 261, 209, 262, 99, 100, 101, 102, 864, 865, 866, 867, 868, 869, 870, 871, 872] (by decide +kernel) (by decide +kernel)
set_option maxRecDepth 20000 in
theorem gL_law_X4_hissAt : GoodIn wsL_law (wsV RL 216 RX4 yX4_hissAt wsX4_hissAt) := goodIn_app (goodIn_of _ (by decide +kernel)) ggL_law_X4_hissAt
set_option maxRecDepth 20000 in
theorem ggL_law_L_gradeFor : GoodIn wsL_law wsL_gradeFor := goodIn_ca (goodIn_r _ [641, 110, 642, 643, 644, 2, 645, 16, 211, 212, 213, 214, 66, 215, 216, 217, 29, 218, 158, 121, 122, 123, 124, 125, 627, 628, 629, 15, 630, 30, 249, 314, 317, 318, 319, 320, 26, 321, 322, 323, 324, 22, 325, 261, 209, 262, 326, 118, 119, 120, 88, 327, 328, 329, 25, 330, 130, 35, 331, 332, 333, 334, 34, 36, 646, 346, 347, 862, 863, 873, 874, 875, 876, 877, 878, 879, 885, 886, 887, 888, 889, 890, 880, 881, 882, 883, 884] (by decide +kernel) (by decide +kernel)) (goodIn_sub (fun _ h => List.mem_append_right _ h) (by decide +kernel))
set_option maxRecDepth 20000 in
theorem gL_law_L_gradeFor : GoodIn wsL_law (va_wsS RL 217 yL_gradeFor wsL_gradeFor) := goodIn_app (goodIn_of _ (by decide +kernel)) ggL_law_L_gradeFor
set_option maxRecDepth 20000 in
theorem ggL_law_X4_gradeFor : GoodIn wsL_law wsX4_gradeFor := goodIn_r _ [650, 93, 224, 225, 226, 5, 227, 95, 96, 97, 98, 635, 636, 637, 638, 52, 267, 268, 269, 270, 94, 228, 229, 230, 231, 53, 373, 374, 375, 376, 135, 377, 378, 379, 380, 51, 276, 277, 278, 279, 381, 382, 383, 384, 50, 275, 261, 209, 262, 389, 390, 391, 99, 100, 101, 102, 864, 865, 866, 867, 868, 869, 870, 871, 872] (by decide +kernel) (by decide +kernel)
set_option maxRecDepth 20000 in
theorem gL_law_X4_gradeFor : GoodIn wsL_law (wsV RL 219 RX4 yX4_gradeFor wsX4_gradeFor) := goodIn_app (goodIn_of _ (by decide +kernel)) ggL_law_X4_gradeFor
set_option maxRecDepth 20000 in
theorem ggL_law_L_dares : GoodIn wsL_law wsL_dares := goodIn_ca (goodIn_r _ [653, 110, 654, 655, 656, 2, 657, 16, 66, 603, 211, 212, 213, 214, 215, 216, 217, 29, 218, 158, 121, 122, 123, 124, 125, 245, 246, 247, 15, 248, 30, 249, 88, 627, 628, 629, 630, 314, 317, 318, 319, 320, 26, 321, 322, 323, 324, 22, 325, 261, 209, 262, 326, 118, 119, 120, 327, 328, 329, 25, 330, 130, 35, 331, 332, 333, 334, 34, 36, 862, 863, 873, 874, 875, 876, 877, 878, 879, 885, 886, 887, 888, 889, 890, 880, 881, 882, 883, 884] (by decide +kernel) (by decide +kernel)) (goodIn_sub (fun _ h => List.mem_append_right _ h) (by decide +kernel))
set_option maxRecDepth 20000 in
theorem gL_law_L_dares : GoodIn wsL_law (va_wsS RL 220 yL_dares wsL_dares) := goodIn_app (goodIn_of _ (by decide +kernel)) ggL_law_L_dares
set_option maxRecDepth 20000 in
theorem ggL_law_X4_dares : GoodIn wsL_law wsX4_dares := goodIn_r _ [661, 93, 224, 225, 226, 5, 227, 95, 96, 97, 98, 662, 663, 664, 665, 267, 268, 269, 270, 94, 228, 229, 230, 231, 53, 635, 636, 637, 638, 52, 373, 374, 375, 376, 135, 377, 378, 379, 380, 51, 276, 277, 278, 279, 381, 382, 383, 384, 50, 275, 261, 209, 262, 864, 865, 866, 867, 868, 869, 870, 871, 872] (by decide +kernel) (by decide +kernel)
set_option maxRecDepth 20000 in
theorem gL_law_X4_dares : GoodIn wsL_law (wsV RL 222 RX4 yX4_dares wsX4_dares) := goodIn_app (goodIn_of _ (by decide +kernel)) ggL_law_X4_dares
set_option maxRecDepth 20000 in
theorem ggL_law_L_beatsUntilIn : GoodIn wsL_law wsL_beatsUntilIn := goodIn_ca (goodIn_r _ [668, 110, 669, 670, 671, 2, 672, 17, 16, 211, 212, 213, 214, 66, 215, 216, 217, 29, 218, 158, 121, 122, 123, 124, 125, 673, 674, 675, 15, 676, 88, 22, 677, 678, 679, 680, 26, 30, 304, 255, 316, 681, 682, 683, 25, 684, 130, 34, 685, 35, 36, 37, 686, 687, 688, 689, 41, 690, 42, 43, 44, 45, 691, 692, 693, 694, 295, 246, 247, 248, 249, 300, 301, 302, 303, 294, 305, 306, 307, 308, 309, 310, 311, 312, 313, 314, 315, 254, 317, 318, 319, 320, 321, 322, 323, 324, 325, 261, 209, 262, 326, 118, 119, 120, 327, 328, 329, 330, 331, 332, 333, 334, 335, 336, 337, 338, 339, 208, 210, 340, 341, 342, 343, 344, 188, 189, 190, 345, 251, 252, 253, 256, 257, 258, 259, 260, 346, 347, 348, 349, 350, 351, 352, 862, 863, 873, 874, 875, 876, 877, 878, 879, 885, 886, 887, 888, 889, 890, 880, 881, 882, 883, 884] (by decide +kernel) (by decide +kernel)) (goodIn_sub (fun _ h => List.mem_append_right _ h) (by decide +kernel))
set_option maxRecDepth 20000 in
theorem gL_law_L_beatsUntilIn : GoodIn wsL_law (va_wsS RL 223 yL_beatsUntilIn wsL_beatsUntilIn) := goodIn_app (goodIn_of _ (by decide +kernel)) ggL_law_L_beatsUntilIn
set_option maxRecDepth 20000 in
theorem ggL_law_X4_beatsUntilIn : GoodIn wsL_law wsX4_beatsUntilIn := goodIn_r _ [698, 93, 224, 225, 226, 5, 227, 95, 96, 97, 98, 699, 700, 701, 702, 703, 704, 705, 706, 53, 54, 707, 678, 679, 680, 708, 709, 710, 711, 267, 268, 269, 270, 94, 228, 229, 230, 231, 365, 366, 367, 368, 135, 276, 277, 278, 279, 140, 141, 142, 143, 369, 370, 371, 372, 52, 223, 208, 209, 210, 275, 261, 262, 163, 164, 165, 166, 373, 374, 375, 376, 377, 378, 379, 380, 51, 381, 382, 383, 384, 50, 385, 386, 387, 388, 271, 272, 273, 274, 389, 390, 391, 712, 713, 714, 715, 99, 100, 101, 102, 864, 865, 866, 867, 868, 869, 870, 871, 872] (by decide +kernel) (by decide +kernel)
set_option maxRecDepth 20000 in
theorem gL_law_X4_beatsUntilIn : GoodIn wsL_law (wsV RL 225 RX4 yX4_beatsUntilIn wsX4_beatsUntilIn) := goodIn_app (goodIn_of _ (by decide +kernel)) ggL_law_X4_beatsUntilIn
set_option maxRecDepth 20000 in
theorem ggL_law_L_inFarmAfter : GoodIn wsL_law wsL_inFarmAfter := goodIn_ca (goodIn_r _ [718, 59, 719, 720, 721, 2, 722, 17, 16, 287, 288, 289, 71, 72, 73, 74, 75, 76, 77, 78, 673, 674, 675, 15, 676, 88, 22, 677, 678, 679, 680, 26, 30, 304, 255, 316, 681, 682, 683, 25, 684, 130, 34, 685, 35, 36, 37, 686, 687, 688, 29, 689, 158, 41, 690, 42, 43, 44, 45, 296, 297, 298, 299, 300, 301, 302, 303, 294, 305, 306, 307, 308, 295, 246, 247, 248, 249, 309, 310, 311, 312, 313, 314, 315, 254, 317, 318, 319, 320, 321, 322, 323, 324, 325, 261, 209, 262, 326, 118, 119, 120, 327, 328, 329, 330, 331, 332, 333, 334, 335, 336, 337, 338, 339, 208, 210, 340, 341, 342, 343, 344, 188, 189, 190, 345, 251, 252, 253, 256, 257, 258, 259, 260, 346, 347, 348, 349, 350, 351, 352, 290, 291, 292, 293, 862, 863, 873, 874, 875, 876, 877, 878, 879, 880, 881, 882, 883, 884, 885, 886, 887, 888, 889, 890] (by decide +kernel) (by decide +kernel)) (goodIn_sub (fun _ h => List.mem_append_left _ (List.mem_append_left _ (List.mem_append_right _ h))) (by decide +kernel))
set_option maxRecDepth 20000 in
theorem gL_law_L_inFarmAfter : GoodIn wsL_law (va_wsS RL 226 yL_inFarmAfter wsL_inFarmAfter) := goodIn_app (goodIn_of _ (by decide +kernel)) ggL_law_L_inFarmAfter
set_option maxRecDepth 20000 in
theorem ggL_law_X4_inFarmAfter : GoodIn wsL_law wsX4_inFarmAfter := goodIn_r _ [726, 93, 96, 97, 5, 98, 99, 100, 101, 102, 703, 704, 705, 706, 53, 54, 707, 678, 679, 680, 361, 362, 363, 364, 365, 366, 367, 368, 135, 95, 276, 277, 278, 279, 140, 141, 142, 143, 369, 370, 371, 372, 52, 223, 208, 209, 210, 275, 261, 262, 267, 268, 269, 270, 94, 228, 229, 230, 231, 163, 164, 165, 166, 373, 374, 375, 376, 377, 378, 379, 380, 51, 381, 382, 383, 384, 50, 385, 386, 387, 388, 271, 272, 273, 274, 389, 390, 391, 357, 358, 359, 360, 712, 713, 714, 715, 864, 865, 866, 867, 868, 869, 870, 871, 872] (by decide +kernel) (by decide +kernel)
set_option maxRecDepth 20000 in
theorem gL_law_X4_inFarmAfter : GoodIn wsL_law (wsV RL 228 RX4 yX4_inFarmAfter wsX4_inFarmAfter) := goodIn_app (goodIn_of _ (by decide +kernel)) ggL_law_X4_inFarmAfter
set_option maxRecDepth 20000 in
theorem ggL_law_L_cornsWanted : GoodIn wsL_law wsL_cornsWanted := goodIn_ca (goodIn_r _ [729, 110, 730, 731, 732, 2, 733, 17, 16, 66, 206, 211, 212, 213, 214, 215, 216, 217, 29, 218, 158, 121, 122, 123, 124, 125, 673, 674, 675, 15, 676, 88, 22, 677, 678, 679, 680, 26, 30, 304, 255, 316, 681, 682, 683, 25, 684, 130, 34, 685, 35, 36, 37, 686, 687, 688, 689, 41, 690, 42, 43, 44, 45, 691, 692, 693, 694, 295, 246, 247, 248, 249, 300, 301, 302, 303, 294, 305, 306, 307, 308, 309, 310, 311, 312, 313, 314, 315, 254, 317, 318, 319, 320, 321, 322, 323, 324, 325, 261, 209, 262, 326, 118, 119, 120, 327, 328, 329, 330, 331, 332, 333, 334, 335, 336, 337, 338, 339, 208, 210, 340, 341, 342, 343, 344, 188, 189, 190, 345, 251, 252, 253, 256, 257, 258, 259, 260, 346, 347, 348, 349, 350, 351, 352, 862, 863, 873, 874, 875, 876, 877, 878, 879, 885, 886, 887, 888, 889, 890, 880, 881, 882, 883, 884] (by decide +kernel) (by decide +kernel)) (goodIn_sub (fun _ h => List.mem_append_right _ h) (by decide +kernel))
set_option maxRecDepth 20000 in
theorem gL_law_L_cornsWanted : GoodIn wsL_law (va_wsS RL 229 yL_cornsWanted wsL_cornsWanted) := goodIn_app (goodIn_of _ (by decide +kernel)) ggL_law_L_cornsWanted
set_option maxRecDepth 20000 in
theorem ggL_law_X4_cornsWanted : GoodIn wsL_law wsX4_cornsWanted := goodIn_r _ [737, 93, 224, 225, 226, 5, 227, 95, 96, 97, 98, 99, 100, 101, 102, 703, 704, 705, 706, 53, 54, 707, 678, 679, 680, 163, 164, 165, 166, 708, 709, 710, 711, 267, 268, 269, 270, 94, 228, 229, 230, 231, 365, 366, 367, 368, 135, 276, 277, 278, 279, 140, 141, 142, 143, 369, 370, 371, 372, 52, 223, 208, 209, 210, 275, 261, 262, 373, 374, 375, 376, 377, 378, 379, 380, 51, 381, 382, 383, 384, 50, 385, 386, 387, 388, 271, 272, 273, 274, 389, 390, 391, 712, 713, 714, 715, 864, 865, 866, 867, 868, 869, 870, 871, 872] (by decide +kernel) (by decide +kernel)
set_option maxRecDepth 20000 in
theorem gL_law_X4_cornsWanted : GoodIn wsL_law (wsV RL 231 RX4 yX4_cornsWanted wsX4_cornsWanted) := goodIn_app (goodIn_of _ (by decide +kernel)) ggL_law_X4_cornsWanted
set_option maxRecDepth 20000 in
theorem ggL_law_L_bestToBribe : GoodIn wsL_law wsL_bestToBribe := goodIn_ca (goodIn_r _ [740, 110, 741, 742, 743, 2, 744, 16, 115, 66, 239, 211, 212, 213, 214, 215, 216, 217, 29, 218, 158, 121, 122, 123, 124, 125, 745, 341, 342, 25, 343, 130, 35, 331, 332, 333, 334, 34, 36, 862, 863, 873, 874, 875, 876, 877, 878, 879, 885, 886, 887, 888, 889, 890, 880, 881, 882, 883, 884] (by decide +kernel) (by decide +kernel)) (goodIn_sub (fun _ h => List.mem_append_right _ h) (by decide +kernel))
set_option maxRecDepth 20000 in
theorem gL_law_L_bestToBribe : GoodIn wsL_law (va_wsS RL 232 yL_bestToBribe wsL_bestToBribe) := goodIn_app (goodIn_of _ (by decide +kernel)) ggL_law_L_bestToBribe
set_option maxRecDepth 20000 in
theorem ggL_law_X4_bestToBribe : GoodIn wsL_law wsX4_bestToBribe := goodIn_r _ [749, 93, 224, 225, 226, 5, 227, 95, 96, 97, 98, 750, 751, 752, 753, 267, 268, 269, 270, 94, 228, 229, 230, 231, 53, 385, 386, 387, 388, 135, 377, 378, 379, 380, 51, 276, 277, 278, 279, 99, 100, 101, 102, 864, 865, 866, 867, 868, 869, 870, 871, 872] (by decide +kernel) (by decide +kernel)
set_option maxRecDepth 20000 in
theorem gL_law_X4_bestToBribe : GoodIn wsL_law (wsV RL 234 RX4 yX4_bestToBribe wsX4_bestToBribe) := goodIn_app (goodIn_of _ (by decide +kernel)) ggL_law_X4_bestToBribe
set_option maxRecDepth 20000 in
theorem ggL_law_L_bribesWanted : GoodIn wsL_law wsL_bribesWanted := goodIn_ca (goodIn_r _ [756, 110, 757, 758, 759, 2, 760, 16, 211, 212, 213, 214, 66, 215, 216, 217, 29, 218, 158, 121, 122, 123, 124, 125, 761, 762, 763, 15, 764, 30, 249, 314, 26, 765, 315, 766, 321, 322, 323, 324, 22, 325, 261, 209, 262, 326, 118, 119, 120, 88, 767, 628, 629, 630, 317, 318, 319, 320, 327, 328, 329, 25, 330, 130, 35, 331, 332, 333, 334, 34, 36, 768, 862, 863, 873, 874, 875, 876, 877, 878, 879, 885, 886, 887, 888, 889, 890, 880, 881, 882, 883, 884] (by decide +kernel) (by decide +kernel)) (goodIn_sub (fun _ h => List.mem_append_right _ h) (by decide +kernel))
set_option maxRecDepth 20000 in
theorem gL_law_L_bribesWanted : GoodIn wsL_law (va_wsS RL 235 yL_bribesWanted wsL_bribesWanted) := goodIn_app (goodIn_of _ (by decide +kernel)) ggL_law_L_bribesWanted
set_option maxRecDepth 20000 in
theorem ggL_law_X4_bribesWanted : GoodIn wsL_law wsX4_bribesWanted := goodIn_r _ [772, 93, 224, 225, 226, 5, 227, 95, 96, 97, 98, 773, 774, 775, 776, 21, 135, 52, 267, 268, 269, 270, 94, 228, 229, 230, 231, 53, 635, 636, 637, 638, 373, 374, 375, 376, 377, 378, 379, 380, 51, 276, 277, 278, 279, 381, 382, 383, 384, 50, 275, 261, 209, 262, 99, 100, 101, 102, 864, 865, 866, 867, 868, 869, 870, 871, 872] (by decide +kernel) (by decide +kernel)
set_option maxRecDepth 20000 in
theorem gL_law_X4_bribesWanted : GoodIn wsL_law (wsV RL 237 RX4 yX4_bribesWanted wsX4_bribesWanted) := goodIn_app (goodIn_of _ (by decide +kernel)) ggL_law_X4_bribesWanted
set_option maxRecDepth 20000 in
theorem ggL_law_L_rankWanted : GoodIn wsL_law wsL_rankWanted := goodIn_ca (goodIn_r _ [779, 110, 780, 781, 782, 2, 783, 16, 66, 239, 603, 211, 212, 213, 214, 215, 216, 217, 29, 218, 158, 121, 122, 123, 124, 125, 492, 318, 319, 15, 320, 26, 321, 322, 323, 324, 22, 325, 261, 209, 262, 326, 118, 119, 120, 88, 327, 328, 329, 25, 330, 130, 35, 331, 332, 333, 334, 34, 36, 862, 863, 873, 874, 875, 876, 877, 878, 879, 885, 886, 887, 888, 889, 890, 880, 881, 882, 883, 884] (by decide +kernel) (by decide +kernel)) (goodIn_sub (fun _ h => List.mem_append_right _ h) (by decide +kernel))
set_option maxRecDepth 20000 in
theorem gL_law_L_rankWanted : GoodIn wsL_law (va_wsS RL 238 yL_rankWanted wsL_rankWanted) := goodIn_app (goodIn_of _ (by decide +kernel)) ggL_law_L_rankWanted
set_option maxRecDepth 20000 in
theorem ggL_law_X4_rankWanted : GoodIn wsL_law wsX4_rankWanted := goodIn_r _ [787, 93, 224, 225, 226, 5, 227, 95, 96, 97, 98, 788, 789, 790, 791, 267, 268, 269, 270, 94, 228, 229, 230, 231, 53, 373, 374, 375, 376, 135, 377, 378, 379, 380, 51, 276, 277, 278, 279, 381, 382, 383, 384, 50, 275, 261, 209, 262, 99, 100, 101, 102, 864, 865, 866, 867, 868, 869, 870, 871, 872] (by decide +kernel) (by decide +kernel)
set_option maxRecDepth 20000 in
theorem gL_law_X4_rankWanted : GoodIn wsL_law (wsV RL 240 RX4 yX4_rankWanted wsX4_rankWanted) := goodIn_app (goodIn_of _ (by decide +kernel)) ggL_law_X4_rankWanted
set_option maxRecDepth 20000 in
theorem ggL_law_L_firstBar : GoodIn wsL_law wsL_firstBar := goodIn_ca (goodIn_r _ [794, 59, 795, 796, 797, 2, 798, 16, 65, 68, 69, 70, 71, 72, 73, 151, 152, 153, 74, 75, 76, 77, 78, 492, 318, 319, 15, 320, 26, 321, 322, 323, 324, 22, 325, 261, 209, 262, 326, 118, 119, 120, 88, 327, 328, 329, 25, 330, 130, 35, 331, 332, 333, 334, 34, 36, 862, 863, 873, 874, 875, 876, 877, 878, 879, 880, 881, 882, 883, 884] (by decide +kernel) (by decide +kernel)) (goodIn_sub (fun _ h => List.mem_append_left _ (List.mem_append_left _ (List.mem_append_right _ h))) (by decide +kernel))
set_option maxRecDepth 20000 in
theorem gL_law_L_firstBar : GoodIn wsL_law (va_wsS RL 241 yL_firstBar wsL_firstBar) := goodIn_app (goodIn_of _ (by decide +kernel)) ggL_law_L_firstBar
set_option maxRecDepth 20000 in
theorem ggL_law_X4_firstBar : GoodIn wsL_law wsX4_firstBar := goodIn_r _ [802, 93, 94, 96, 97, 5, 98, 99, 100, 101, 102, 373, 374, 375, 376, 135, 377, 378, 379, 380, 51, 276, 277, 278, 279, 53, 381, 382, 383, 384, 50, 275, 261, 209, 262, 864, 865, 866, 867, 868, 869, 870, 871, 872] (by decide +kernel) (by decide +kernel)
set_option maxRecDepth 20000 in
theorem gL_law_X4_firstBar : GoodIn wsL_law (wsV RL 243 RX4 yX4_firstBar wsX4_firstBar) := goodIn_app (goodIn_of _ (by decide +kernel)) ggL_law_X4_firstBar
set_option maxRecDepth 20000 in
theorem ggL_law_X3_meanTemper : GoodIn wsL_law wsX3_meanTemper := goodIn_r _ [806, 16, 115, 116, 807, 808, 809, 25, 810, 130, 35, 862, 863, 873, 874, 875, 876, 877, 878, 879, 880, 881, 882, 883, 884] (by decide +kernel) (by decide +kernel)
set_option maxRecDepth 20000 in
theorem gL_law_X3_meanTemper : GoodIn wsL_law (wsV RL 244 RX3 yX3_meanTemper wsX3_meanTemper) := goodIn_app (goodIn_of _ (by decide +kernel)) ggL_law_X3_meanTemper
set_option maxRecDepth 20000 in
theorem ggL_law_X4_meanTemper : GoodIn wsL_law wsX4_meanTemper := goodIn_r _ [814, 93, 135, 276, 277, 278, 5, 279, 53, 864, 865, 866, 867, 868, 869, 870, 871, 872] (by decide +kernel) (by decide +kernel)
set_option maxRecDepth 20000 in
theorem gL_law_X4_meanTemper : GoodIn wsL_law (wsV RL 248 RX4 yX4_meanTemper wsX4_meanTemper) := goodIn_app (goodIn_of _ (by decide +kernel)) ggL_law_X4_meanTemper
set_option maxRecDepth 20000 in
theorem ggL_law_X3_digest : GoodIn wsL_law wsX3_digest := goodIn_ca (goodIn_r _ [818, 819, 16, 66, 67, 820, 393, 394, 2, 395, 396, 821, 822, 823, 824, 825, 406, 407, 408, 65, 826, 414, 415, 416, 115, 116, 827, 422, 423, 424, 828, 430, 431, 432, 290, 291, 292, 15, 293, 30, 294, 295, 246, 247, 248, 249, 88, 829, 438, 439, 440, 441, 830, 447, 448, 449, 450, 831, 498, 499, 500, 492, 318, 319, 320, 26, 321, 322, 323, 324, 22, 325, 261, 209, 262, 326, 118, 119, 120, 327, 328, 329, 25, 330, 130, 35, 331, 332, 333, 334, 34, 36, 832, 833, 834, 835, 836, 459, 460, 461, 174, 117, 121, 122, 123, 124, 125, 837, 470, 471, 472, 473, 474, 475, 476, 838, 839, 840, 841, 842, 513, 514, 515, 186, 241, 242, 243, 244, 187, 188, 189, 190, 843, 524, 525, 526, 240, 844, 539, 540, 541, 542, 845, 551, 552, 553, 554, 846, 563, 564, 565, 239, 211, 212, 213, 214, 215, 216, 217, 29, 218, 158, 847, 589, 590, 591, 206, 848, 600, 601, 602, 603, 849, 612, 613, 614, 615, 850, 624, 625, 626, 627, 628, 629, 630, 314, 317, 851, 655, 656, 657, 245, 852, 670, 671, 672, 17, 673, 674, 675, 676, 677, 678, 679, 680, 304, 255, 316, 681, 682, 683, 684, 685, 37, 686, 687, 688, 689, 41, 690, 42, 43, 44, 45, 691, 692, 693, 694, 300, 301, 302, 303, 305, 306, 307, 308, 309, 310, 311, 312, 313, 315, 254, 335, 336, 337, 338, 339, 208, 210, 340, 341, 342, 343, 344, 345, 251, 252, 253, 256, 257, 258, 259, 260, 346, 347, 348, 349, 350, 351, 352, 853, 742, 743, 744, 745, 854, 758, 759, 760, 761, 762, 763, 764, 765, 766, 767, 768, 855, 781, 782, 783, 862, 863, 873, 874, 875, 876, 877, 878, 879, 885, 886, 887, 888, 889, 890, 880, 881, 882, 883, 884] (by decide +kernel) (by decide +kernel)) (goodIn_sub (fun _ h => List.mem_append_right _ h) (by decide +kernel))
set_option maxRecDepth 20000 in
theorem gL_law_X3_digest : GoodIn wsL_law (wsV RL 249 RX3 yX3_digest wsX3_digest) := goodIn_app (goodIn_of _ (by decide +kernel)) ggL_law_X3_digest
set_option maxRecDepth 20000 in
theorem ggL_law_X4_digest : GoodIn wsL_law wsX4_digest := goodIn_r _ [859, 93, 21, 53, 94, 135, 95, 860, 861, 50, 51, 357, 358, 359, 5, 360, 267, 268, 269, 270, 228, 229, 230, 231, 505, 506, 507, 508, 373, 374, 375, 376, 377, 378, 379, 380, 276, 277, 278, 279, 381, 382, 383, 384, 275, 261, 209, 262, 481, 482, 483, 484, 635, 636, 637, 638, 52, 662, 663, 664, 665, 699, 700, 701, 702, 703, 704, 705, 706, 54, 707, 678, 679, 680, 708, 709, 710, 711, 365, 366, 367, 368, 140, 141, 142, 143, 369, 370, 371, 372, 223, 208, 210, 163, 164, 165, 166, 385, 386, 387, 388, 271, 272, 273, 274, 389, 390, 391, 712, 713, 714, 715, 750, 751, 752, 753, 773, 774, 775, 776, 788, 789, 790, 791, 864, 865, 866, 867, 868, 869, 870, 871, 872] (by decide +kernel) (by decide +kernel)
set_option maxRecDepth 20000 in
theorem gL_law_X4_digest : GoodIn wsL_law (wsV RL 253 RX4 yX4_digest wsX4_digest) := goodIn_app (goodIn_of _ (by decide +kernel)) ggL_law_X4_digest
