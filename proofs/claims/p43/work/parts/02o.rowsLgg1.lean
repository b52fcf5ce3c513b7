set_option maxRecDepth 20000 in
theorem ggL_act_X4_feed : GoodIn wsL_act wsX4_feed := goodIn_r _ [130, 131, 265, 266, 267, 268, 269, 270] (by decide +kernel) (by decide +kernel)
set_option maxRecDepth 20000 in
theorem gL_act_X4_feed : GoodIn wsL_act (wsV RL 66 RX4 yX4_feed wsX4_feed) := goodIn_app (goodIn_of _ (by decide +kernel)) ggL_act_X4_feed
set_option maxRecDepth 20000 in
theorem ggL_act_X3_bribe : GoodIn wsL_act wsX3_bribe := goodIn_ca (goodIn_ca (goodIn_r _ [135, 25, 27, 113, 60, 104, 136, 137, 115, 116, 117, 23, 118, 119, 120, 121, 89, 122, 91, 66, 67, 68, 69, 70, 138, 139, 140, 141, 105, 106, 107, 74, 108, 76, 142, 143, 144, 48, 145, 146, 147, 50, 40, 41, 42, 43, 44, 148, 149, 150, 151, 152, 153, 154, 155, 156, 157, 158, 159, 160, 78, 161, 162, 7, 163, 271, 272, 273, 274, 275, 276, 277, 278, 279, 280, 281, 282, 283, 284, 285, 286, 287, 288, 289, 290] (by decide +kernel) (by decide +kernel)) (goodIn_sub (fun _ h => List.mem_cons_of_mem _ (List.mem_append_right _ h)) (by decide +kernel))) (goodIn_sub (fun _ h => List.mem_cons_of_mem _ (List.mem_append_left _ (List.mem_append_right _ h))) (by decide +kernel))
set_option maxRecDepth 20000 in
theorem gL_act_X3_bribe : GoodIn wsL_act (wsV RL 70 RX3 yX3_bribe wsX3_bribe) := goodIn_app (goodIn_of _ (by decide +kernel)) ggL_act_X3_bribe
set_option maxRecDepth 20000 in
theorem ggL_act_X3_passBeats : GoodIn wsL_act wsX3_passBeats := goodIn_ca (goodIn_r _ [167, 25, 168, 169, 23, 170, 32, 33, 34, 35, 36, 37, 38, 39, 171, 172, 173, 48, 174, 146, 175, 176, 143, 144, 145, 147, 50, 177, 178, 179, 180, 181, 182, 183, 184, 153, 185, 186, 187, 188, 74, 189, 76, 160, 190, 191, 192, 193, 194, 195, 196, 152, 197, 198, 199, 200, 201, 202, 203, 204, 205, 51, 206, 162, 7, 163, 207, 63, 64, 65, 208, 209, 210, 211, 78, 212, 213, 214, 215, 77, 216, 217, 218, 219, 220, 6, 8, 221, 222, 223, 224, 225, 106, 107, 108, 226, 149, 150, 151, 154, 155, 156, 157, 158, 159, 161, 227, 228, 229, 230, 231, 89, 232, 233, 93, 234, 235, 271, 272, 273, 274, 275, 276, 277, 278, 279, 280, 281, 282, 283, 284, 285, 286, 287, 288, 289, 290] (by decide +kernel) (by decide +kernel)) (goodIn_sub (fun _ h => List.mem_cons_of_mem _ (List.mem_append_left _ (List.mem_append_left _ (List.mem_append_right _ h)))) (by decide +kernel))
set_option maxRecDepth 20000 in
theorem gL_act_X3_passBeats : GoodIn wsL_act (wsV RL 73 RX3 yX3_passBeats wsX3_passBeats) := goodIn_app (goodIn_of _ (by decide +kernel)) ggL_act_X3_passBeats
set_option maxRecDepth 20000 in
theorem ggL_act_X4_behind : GoodIn wsL_act wsX4_behind := goodIn_r _ [239, 240, 241, 242, 17, 243, 244, 245, 124, 125, 126, 19, 246, 247, 248, 249, 250, 251, 252, 253, 254, 255, 256, 257, 258, 259, 260, 261, 128, 129, 130, 131, 262, 263, 264, 4, 265, 266, 267, 268, 269, 270] (by decide +kernel) (by decide +kernel)
set_option maxRecDepth 20000 in
theorem gL_act_X4_behind : GoodIn wsL_act (wsV RL 76 RX4 yX4_behind wsX4_behind) := goodIn_app (goodIn_of _ (by decide +kernel)) ggL_act_X4_behind
set_option maxRecDepth 20000 in
theorem ggL_build_X4_init : GoodIn wsL_build wsX4_init := goodIn_r _ [6, 7, 8, 9, 10, 11, 12, 13, 14, 279, 280, 281, 282, 283, 284] (by decide +kernel) (by decide +kernel)
set_option maxRecDepth 20000 in
theorem gL_build_X4_init_n79 : GoodIn wsL_build (wsX4_init) := ggL_build_X4_init
set_option maxRecDepth 20000 in
theorem ggL_build_L_cell : GoodIn wsL_build wsL_cell := goodIn_r _ [18, 19] (by decide +kernel) (by decide +kernel)
set_option maxRecDepth 20000 in
theorem gL_build_L_cell : GoodIn wsL_build (va_wsS RL 80 yL_cell wsL_cell) := goodIn_app (goodIn_of _ (by decide +kernel)) ggL_build_L_cell
set_option maxRecDepth 20000 in
theorem ggL_build_L_below : GoodIn wsL_build wsL_below := goodIn_r _ [22, 23] (by decide +kernel) (by decide +kernel)
set_option maxRecDepth 20000 in
theorem gL_build_L_below : GoodIn wsL_build (va_wsS RL 22 yL_below wsL_below) := goodIn_app (goodIn_of _ (by decide +kernel)) ggL_build_L_below
set_option maxRecDepth 20000 in
theorem ggL_build_X4_addGate : GoodIn wsL_build wsX4_addGate := goodIn_r _ [27, 11, 10, 279, 280, 281, 282, 283, 284] (by decide +kernel) (by decide +kernel)
set_option maxRecDepth 20000 in
theorem gL_build_X4_addGate : GoodIn wsL_build (wsV RL 28 RX4 yX4_addGate wsX4_addGate) := goodIn_app (goodIn_of _ (by decide +kernel)) ggL_build_X4_addGate
set_option maxRecDepth 20000 in
theorem ggL_build_X3_addGate : GoodIn wsL_build wsX3_addGate := goodIn_ca (goodIn_ca (goodIn_r _ [32, 33, 34, 35, 36, 37, 38, 31, 39, 40, 41, 42, 43, 44, 45, 46, 47, 48, 49, 50, 51, 52, 53, 54, 55, 56, 57, 58, 59, 285, 286, 287, 288, 289, 290, 291, 292, 293, 294, 295, 296, 297, 298, 299] (by decide +kernel) (by decide +kernel)) (goodIn_sub (fun _ h => List.mem_cons_of_mem _ (List.mem_append_left _ (List.mem_append_left _ (List.mem_append_right _ h)))) (by decide +kernel))) (goodIn_sub (fun _ h => List.mem_cons_of_mem _ (List.mem_append_left _ (List.mem_append_right _ h))) (by decide +kernel))
set_option maxRecDepth 20000 in
theorem gL_build_X3_addGate : GoodIn wsL_build (wsV RL 32 RX3 yX3_addGate wsX3_addGate) := goodIn_app (goodIn_of _ (by decide +kernel)) ggL_build_X3_addGate
set_option maxRecDepth 20000 in
theorem gL_build_L_act : GoodIn wsL_build (va_wsS RL 84 yL_act wsL_act) := goodIn_app (goodIn_of _ (by decide +kernel)) ggL_build_L_act
