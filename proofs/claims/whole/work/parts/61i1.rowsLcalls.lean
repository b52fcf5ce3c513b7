set_option maxRecDepth 20000 in
theorem ggL_law_X3_init : GoodIn wsL_law wsX3_init := goodIn_r _ [9, 10, 11, 12, 13, 14, 15, 16, 17, 18, 19, 20, 21, 22, 23, 24, 25, 26, 27, 28, 29, 30, 31, 32, 33, 34, 35, 36, 37, 38, 39, 40, 41, 42, 43, 44, 45, 873, 874, 875, 876, 877, 878, 879, 862, 863, 880, 881, 882, 883, 884, 885, 886, 887, 888, 889, 890] (by decide +kernel) (by decide +kernel)
set_option maxRecDepth 20000 in
theorem gL_law_X3_init : GoodIn wsL_law (wsX3_init) := ggL_law_X3_init
set_option maxRecDepth 20000 in
theorem ggL_law_X4_init : GoodIn wsL_law wsX4_init := goodIn_r _ [48, 49, 11, 12, 21, 50, 51, 52, 53, 54, 864, 865, 866, 867, 868, 869, 870, 871, 872] (by decide +kernel) (by decide +kernel)
set_option maxRecDepth 20000 in
theorem gL_law_X4_init : GoodIn wsL_law (wsX4_init) := ggL_law_X4_init
set_option maxRecDepth 20000 in
theorem ggL_law_L_addGate : GoodIn wsL_law wsL_addGate := goodIn_ca (goodIn_ca (goodIn_r _ [58, 59, 60, 61, 62, 63, 2, 64, 16, 65, 66, 67, 68, 69, 70, 71, 72, 73, 74, 75, 76, 77, 78, 79, 80, 81, 82, 83, 84, 85, 86, 15, 87, 88, 22, 862, 863, 873, 874, 875, 876, 877, 878, 879, 885, 886, 887, 888, 889, 890] (by decide +kernel) (by decide +kernel)) (goodIn_sub (fun _ h => List.mem_append_left _ (List.mem_append_left _ (List.mem_append_right _ h))) (by decide +kernel))) (goodIn_sub (fun _ h => List.mem_append_left _ (List.mem_append_right _ h)) (by decide +kernel))
set_option maxRecDepth 20000 in
theorem gL_law_L_addGate : GoodIn wsL_law (va_wsS RL 113 yL_addGate wsL_addGate) := goodIn_app (goodIn_of _ (by decide +kernel)) ggL_law_L_addGate
set_option maxRecDepth 20000 in
theorem ggL_law_X4_addGate : GoodIn wsL_law wsX4_addGate := goodIn_r _ [92, 93, 94, 95, 50, 96, 97, 5, 98, 99, 100, 101, 102, 864, 865, 866, 867, 868, 869, 870, 871, 872] (by decide +kernel) (by decide +kernel)
set_option maxRecDepth 20000 in
theorem gL_law_X4_addGate : GoodIn wsL_law (wsV RL 118 RX4 yX4_addGate wsX4_addGate) := goodIn_app (goodIn_of _ (by decide +kernel)) ggL_law_X4_addGate
set_option maxRecDepth 20000 in
theorem ggL_law_X4_thrown : GoodIn wsL_law wsX4_thrown := goodIn_r _ [106, 93, 864, 865, 866, 867, 868, 869, 870, 871, 872] (by decide +kernel) (by decide +kernel)
set_option maxRecDepth 20000 in
theorem gL_law_X4_thrown : GoodIn wsL_law (wsV RL 119 RX4 yX4_thrown wsX4_thrown) := goodIn_app (goodIn_of _ (by decide +kernel)) ggL_law_X4_thrown
set_option maxRecDepth 20000 in
theorem ggL_law_L_addGoose : GoodIn wsL_law wsL_addGoose := goodIn_ca (goodIn_ca (goodIn_ca (goodIn_r _ [109, 110, 59, 60, 111, 112, 113, 2, 114, 16, 115, 116, 117, 118, 119, 15, 120, 88, 121, 122, 123, 124, 125, 71, 72, 73, 74, 75, 76, 77, 78, 79, 80, 81, 82, 83, 126, 127, 128, 25, 129, 130, 34, 35, 862, 863, 873, 874, 875, 876, 877, 878, 879, 880, 881, 882, 883, 884] (by decide +kernel) (by decide +kernel)) (goodIn_sub (fun _ h => List.mem_append_right _ h) (by decide +kernel))) (goodIn_sub (fun _ h => List.mem_append_left _ (List.mem_append_left _ (List.mem_append_right _ h))) (by decide +kernel))) (goodIn_sub (fun _ h => List.mem_append_left _ (List.mem_append_right _ h)) (by decide +kernel))
set_option maxRecDepth 20000 in
theorem gL_law_L_addGoose : GoodIn wsL_law (va_wsS RL 123 yL_addGoose wsL_addGoose) := goodIn_app (goodIn_of _ (by decide +kernel)) ggL_law_L_addGoose
set_option maxRecDepth 20000 in
theorem ggL_law_X4_addGoose : GoodIn wsL_law wsX4_addGoose := goodIn_r _ [134, 93, 135, 51, 136, 137, 138, 5, 139, 94, 96, 97, 98, 99, 100, 101, 102, 140, 141, 142, 143, 53, 864, 865, 866, 867, 868, 869, 870, 871, 872] (by decide +kernel) (by decide +kernel)
set_option maxRecDepth 20000 in
theorem gL_law_X4_addGoose : GoodIn wsL_law (wsV RL 126 RX4 yX4_addGoose wsX4_addGoose) := goodIn_app (goodIn_of _ (by decide +kernel)) ggL_law_X4_addGoose
set_option maxRecDepth 20000 in
theorem ggL_law_L_arrive : GoodIn wsL_law wsL_arrive := goodIn_ca (goodIn_ca (goodIn_r _ [146, 59, 60, 147, 148, 149, 2, 150, 16, 65, 66, 67, 68, 69, 70, 71, 72, 73, 151, 152, 153, 74, 75, 76, 77, 78, 79, 80, 81, 82, 83, 154, 155, 156, 29, 157, 158, 41, 42, 43, 862, 863, 873, 874, 875, 876, 877, 878, 879, 885, 886, 887, 888, 889, 890] (by decide +kernel) (by decide +kernel)) (goodIn_sub (fun _ h => List.mem_append_left _ (List.mem_append_left _ (List.mem_append_right _ h))) (by decide +kernel))) (goodIn_sub (fun _ h => List.mem_append_left _ (List.mem_append_right _ h)) (by decide +kernel))
set_option maxRecDepth 20000 in
theorem gL_law_L_arrive : GoodIn wsL_law (va_wsS RL 127 yL_arrive wsL_arrive) := goodIn_app (goodIn_of _ (by decide +kernel)) ggL_law_L_arrive
set_option maxRecDepth 20000 in
theorem ggL_law_X4_arrive : GoodIn wsL_law wsX4_arrive := goodIn_r _ [162, 93, 94, 95, 52, 96, 97, 5, 98, 99, 100, 101, 102, 163, 164, 165, 166, 53, 864, 865, 866, 867, 868, 869, 870, 871, 872] (by decide +kernel) (by decide +kernel)
set_option maxRecDepth 20000 in
theorem gL_law_X4_arrive : GoodIn wsL_law (wsV RL 130 RX4 yX4_arrive wsX4_arrive) := goodIn_app (goodIn_of _ (by decide +kernel)) ggL_law_X4_arrive
set_option maxRecDepth 20000 in
theorem ggL_law_L_setRank : GoodIn wsL_law wsL_setRank := goodIn_ca (goodIn_ca (goodIn_r _ [169, 110, 59, 170, 171, 172, 2, 173, 16, 174, 117, 118, 119, 15, 120, 88, 121, 122, 123, 124, 125, 68, 69, 70, 71, 72, 73, 74, 75, 76, 77, 78, 862, 863, 873, 874, 875, 876, 877, 878, 879] (by decide +kernel) (by decide +kernel)) (goodIn_sub (fun _ h => List.mem_append_right _ h) (by decide +kernel))) (goodIn_sub (fun _ h => List.mem_append_left _ (List.mem_append_left _ (List.mem_append_right _ h))) (by decide +kernel))
set_option maxRecDepth 20000 in
theorem gL_law_L_setRank : GoodIn wsL_law (va_wsS RL 131 yL_setRank wsL_setRank) := goodIn_app (goodIn_of _ (by decide +kernel)) ggL_law_L_setRank
set_option maxRecDepth 20000 in
theorem ggL_law_X4_setRank : GoodIn wsL_law wsX4_setRank := goodIn_r _ [178, 93, 50, 136, 137, 138, 5, 139, 94, 96, 97, 98, 99, 100, 101, 102, 864, 865, 866, 867, 868, 869, 870, 871, 872] (by decide +kernel) (by decide +kernel)
set_option maxRecDepth 20000 in
theorem gL_law_X4_setRank : GoodIn wsL_law (wsV RL 133 RX4 yX4_setRank wsX4_setRank) := goodIn_app (goodIn_of _ (by decide +kernel)) ggL_law_X4_setRank
set_option maxRecDepth 20000 in
theorem ggL_law_L_lead : GoodIn wsL_law wsL_lead := goodIn_ca (goodIn_r _ [181, 110, 182, 183, 184, 2, 185, 16, 115, 186, 187, 188, 189, 25, 190, 130, 117, 118, 119, 15, 120, 88, 121, 122, 123, 124, 125, 862, 863, 873, 874, 875, 876, 877, 878, 879, 880, 881, 882, 883, 884] (by decide +kernel) (by decide +kernel)) (goodIn_sub (fun _ h => List.mem_append_right _ h) (by decide +kernel))
set_option maxRecDepth 20000 in
theorem gL_law_L_lead : GoodIn wsL_law (va_wsS RL 134 yL_lead wsL_lead) := goodIn_app (goodIn_of _ (by decide +kernel)) ggL_law_L_lead
set_option maxRecDepth 20000 in
theorem ggL_law_X4_lead : GoodIn wsL_law wsX4_lead := goodIn_r _ [194, 93, 51, 195, 196, 197, 5, 198, 135, 96, 97, 98, 136, 137, 138, 139, 94, 99, 100, 101, 102, 864, 865, 866, 867, 868, 869, 870, 871, 872] (by decide +kernel) (by decide +kernel)
set_option maxRecDepth 20000 in
theorem gL_law_X4_lead : GoodIn wsL_law (wsV RL 136 RX4 yX4_lead wsX4_lead) := goodIn_app (goodIn_of _ (by decide +kernel)) ggL_law_X4_lead
set_option maxRecDepth 20000 in
theorem ggL_law_L_giveCorns : GoodIn wsL_law wsL_giveCorns := goodIn_ca (goodIn_ca (goodIn_r _ [201, 110, 59, 202, 203, 204, 2, 205, 16, 66, 206, 207, 208, 209, 210, 211, 212, 213, 214, 215, 216, 217, 29, 218, 158, 121, 122, 123, 124, 125, 71, 72, 73, 74, 75, 76, 77, 78, 862, 863, 873, 874, 875, 876, 877, 878, 879, 885, 886, 887, 888, 889, 890] (by decide +kernel) (by decide +kernel)) (goodIn_sub (fun _ h => List.mem_append_right _ h) (by decide +kernel))) (goodIn_sub (fun _ h => List.mem_append_left _ (List.mem_append_left _ (List.mem_append_right _ h))) (by decide +kernel))
set_option maxRecDepth 20000 in
theorem gL_law_L_giveCorns : GoodIn wsL_law (va_wsS RL 137 yL_giveCorns wsL_giveCorns) := goodIn_app (goodIn_of _ (by decide +kernel)) ggL_law_L_giveCorns
