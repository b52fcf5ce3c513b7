set_option maxRecDepth 20000 in
theorem ggL_act_L_below : GoodIn wsL_act wsL_below := goodIn_r _ [12, 13] (by decide +kernel) (by decide +kernel)
set_option maxRecDepth 20000 in
theorem gL_act_L_below : GoodIn wsL_act (va_wsS RL 22 yL_below wsL_below) := goodIn_app (goodIn_of _ (by decide +kernel)) ggL_act_L_below
set_option maxRecDepth 20000 in
theorem ggL_act_X4_addGate : GoodIn wsL_act wsX4_addGate := goodIn_r _ [18, 19, 4, 265, 266, 267, 268, 269, 270] (by decide +kernel) (by decide +kernel)
set_option maxRecDepth 20000 in
theorem gL_act_X4_addGate : GoodIn wsL_act (wsV RL 28 RX4 yX4_addGate wsX4_addGate) := goodIn_app (goodIn_of _ (by decide +kernel)) ggL_act_X4_addGate
set_option maxRecDepth 20000 in
theorem ggL_act_X3_addGate : GoodIn wsL_act wsX3_addGate := goodIn_ca (goodIn_ca (goodIn_r _ [24, 25, 26, 27, 28, 29, 30, 23, 31, 32, 33, 34, 35, 36, 37, 38, 39, 40, 41, 42, 43, 44, 45, 46, 47, 48, 49, 50, 51, 271, 272, 273, 274, 275, 276, 277, 278, 279, 280, 281, 282, 283, 284, 285] (by decide +kernel) (by decide +kernel)) (goodIn_sub (fun _ h => List.mem_cons_of_mem _ (List.mem_append_left _ (List.mem_append_left _ (List.mem_append_right _ h)))) (by decide +kernel))) (goodIn_sub (fun _ h => List.mem_cons_of_mem _ (List.mem_append_left _ (List.mem_append_right _ h))) (by decide +kernel))
set_option maxRecDepth 20000 in
theorem gL_act_X3_addGate : GoodIn wsL_act (wsV RL 32 RX3 yX3_addGate wsX3_addGate) := goodIn_app (goodIn_of _ (by decide +kernel)) ggL_act_X3_addGate
set_option maxRecDepth 20000 in
theorem ggL_act_X4_with : GoodIn wsL_act wsX4_with := goodIn_r _ [54, 55] (by decide +kernel) (by decide +kernel)
set_option maxRecDepth 20000 in
theorem gL_act_X4_with : GoodIn wsL_act (va_wsS RL 37 yX4_with wsX4_with) := goodIn_app (goodIn_of _ (by decide +kernel)) ggL_act_X4_with
set_option maxRecDepth 20000 in
theorem ggL_act_X3_addGoose : GoodIn wsL_act wsX3_addGoose := goodIn_ca (goodIn_ca (goodIn_ca (goodIn_r _ [59, 25, 60, 61, 62, 63, 64, 48, 65, 50, 66, 67, 23, 68, 69, 70, 32, 33, 34, 35, 36, 37, 38, 39, 40, 41, 42, 43, 44, 71, 72, 73, 74, 75, 76, 77, 78, 271, 272, 273, 274, 275, 276, 277, 278, 279, 286, 287, 288, 289, 290] (by decide +kernel) (by decide +kernel)) (goodIn_sub (fun _ h => List.mem_cons_of_mem _ (List.mem_append_right _ h)) (by decide +kernel))) (goodIn_sub (fun _ h => List.mem_cons_of_mem _ (List.mem_append_left _ (List.mem_append_left _ (List.mem_append_right _ h)))) (by decide +kernel))) (goodIn_sub (fun _ h => List.mem_cons_of_mem _ (List.mem_append_left _ (List.mem_append_right _ h))) (by decide +kernel))
set_option maxRecDepth 20000 in
theorem gL_act_X3_addGoose : GoodIn wsL_act (wsV RL 41 RX3 yX3_addGoose wsX3_addGoose) := goodIn_app (goodIn_of _ (by decide +kernel)) ggL_act_X3_addGoose
set_option maxRecDepth 20000 in
theorem ggL_act_X3_arrive : GoodIn wsL_act wsX3_arrive := goodIn_ca (goodIn_ca (goodIn_r _ [82, 25, 26, 27, 28, 29, 30, 23, 31, 32, 33, 34, 83, 84, 85, 35, 36, 37, 38, 39, 40, 41, 42, 43, 44, 86, 87, 88, 89, 90, 91, 92, 93, 94, 271, 272, 273, 274, 275, 276, 277, 278, 279, 280, 281, 282, 283, 284, 285] (by decide +kernel) (by decide +kernel)) (goodIn_sub (fun _ h => List.mem_cons_of_mem _ (List.mem_append_left _ (List.mem_append_left _ (List.mem_append_right _ h)))) (by decide +kernel))) (goodIn_sub (fun _ h => List.mem_cons_of_mem _ (List.mem_append_left _ (List.mem_append_right _ h))) (by decide +kernel))
set_option maxRecDepth 20000 in
theorem gL_act_X3_arrive : GoodIn wsL_act (wsV RL 44 RX3 yX3_arrive wsX3_arrive) := goodIn_app (goodIn_of _ (by decide +kernel)) ggL_act_X3_arrive
set_option maxRecDepth 20000 in
theorem ggL_act_X3_setRank : GoodIn wsL_act wsX3_setRank := goodIn_ca (goodIn_ca (goodIn_r _ [98, 25, 99, 62, 63, 64, 48, 65, 50, 66, 67, 23, 68, 69, 70, 29, 30, 31, 32, 33, 34, 35, 36, 37, 38, 39, 271, 272, 273, 274, 275, 276, 277, 278, 279] (by decide +kernel) (by decide +kernel)) (goodIn_sub (fun _ h => List.mem_cons_of_mem _ (List.mem_append_right _ h)) (by decide +kernel))) (goodIn_sub (fun _ h => List.mem_cons_of_mem _ (List.mem_append_left _ (List.mem_append_left _ (List.mem_append_right _ h)))) (by decide +kernel))
set_option maxRecDepth 20000 in
theorem gL_act_X3_setRank : GoodIn wsL_act (wsV RL 48 RX3 yX3_setRank wsX3_setRank) := goodIn_app (goodIn_of _ (by decide +kernel)) ggL_act_X3_setRank
set_option maxRecDepth 20000 in
theorem ggL_act_X3_lead : GoodIn wsL_act wsX3_lead := goodIn_ca (goodIn_r _ [103, 25, 60, 104, 105, 106, 107, 74, 108, 76, 62, 63, 64, 48, 65, 50, 66, 67, 23, 68, 69, 70, 271, 272, 273, 274, 275, 276, 277, 278, 279, 286, 287, 288, 289, 290] (by decide +kernel) (by decide +kernel)) (goodIn_sub (fun _ h => List.mem_cons_of_mem _ (List.mem_append_right _ h)) (by decide +kernel))
set_option maxRecDepth 20000 in
theorem gL_act_X3_lead : GoodIn wsL_act (wsV RL 51 RX3 yX3_lead wsX3_lead) := goodIn_app (goodIn_of _ (by decide +kernel)) ggL_act_X3_lead
set_option maxRecDepth 20000 in
theorem ggL_act_X3_giveCorns : GoodIn wsL_act wsX3_giveCorns := goodIn_ca (goodIn_ca (goodIn_r _ [112, 25, 27, 113, 114, 6, 7, 8, 115, 116, 117, 23, 118, 119, 120, 121, 89, 122, 91, 66, 67, 68, 69, 70, 32, 33, 34, 35, 36, 37, 38, 39, 271, 272, 273, 274, 275, 276, 277, 278, 279, 280, 281, 282, 283, 284, 285] (by decide +kernel) (by decide +kernel)) (goodIn_sub (fun _ h => List.mem_cons_of_mem _ (List.mem_append_right _ h)) (by decide +kernel))) (goodIn_sub (fun _ h => List.mem_cons_of_mem _ (List.mem_append_left _ (List.mem_append_left _ (List.mem_append_right _ h)))) (by decide +kernel))
set_option maxRecDepth 20000 in
theorem gL_act_X3_giveCorns : GoodIn wsL_act (wsV RL 59 RX3 yX3_giveCorns wsX3_giveCorns) := goodIn_app (goodIn_of _ (by decide +kernel)) ggL_act_X3_giveCorns
set_option maxRecDepth 20000 in
theorem ggL_act_X4_isIn : GoodIn wsL_act wsX4_isIn := goodIn_r _ [126, 19, 265, 266, 267, 268, 269, 270] (by decide +kernel) (by decide +kernel)
set_option maxRecDepth 20000 in
theorem gL_act_X4_isIn : GoodIn wsL_act (wsV RL 62 RX4 yX4_isIn wsX4_isIn) := goodIn_app (goodIn_of _ (by decide +kernel)) ggL_act_X4_isIn
