set_option maxRecDepth 20000 in
theorem ggL_law_X4_gateOf : GoodIn wsL_law wsX4_gateOf := goodIn_r _ [519, 93, 51, 195, 196, 197, 5, 198, 135, 96, 97, 98, 99, 100, 101, 102, 864, 865, 866, 867, 868, 869, 870, 871, 872] (by decide +kernel) (by decide +kernel)
set_option maxRecDepth 20000 in
theorem gL_law_X4_gateOf : GoodIn wsL_law (wsV RL 189 RX4 yX4_gateOf wsX4_gateOf) := goodIn_app (goodIn_of _ (by decide +kernel)) ggL_law_X4_gateOf
set_option maxRecDepth 20000 in
theorem ggL_law_L_temperOf : GoodIn wsL_law wsL_temperOf := goodIn_ca (goodIn_r _ [522, 110, 523, 524, 525, 2, 526, 16, 115, 240, 241, 242, 243, 244, 187, 188, 189, 25, 190, 130, 121, 122, 123, 124, 125, 862, 863, 873, 874, 875, 876, 877, 878, 879, 880, 881, 882, 883, 884] (by decide +kernel) (by decide +kernel)) (goodIn_sub (fun _ h => List.mem_append_right _ h) (by decide +kernel))
set_option maxRecDepth 20000 in
theorem gL_law_L_temperOf : GoodIn wsL_law (va_wsS RL 190 yL_temperOf wsL_temperOf) := goodIn_app (goodIn_of _ (by decide +kernel)) ggL_law_L_temperOf
set_option maxRecDepth 20000 in
theorem ggL_law_X4_temperOf : GoodIn wsL_law wsX4_temperOf := goodIn_r _ [530, 531, 532, 533, 5, 534, 93, 195, 196, 197, 198, 135, 96, 97, 98, 276, 277, 278, 279, 53, 99, 100, 101, 102, 864, 865, 866, 867, 868, 869, 870, 871, 872] (by decide +kernel) (by decide +kernel)
set_option maxRecDepth 20000 in
theorem gL_law_X4_temperOf : GoodIn wsL_law (wsV RL 192 RX4 yX4_temperOf wsX4_temperOf) := goodIn_app (goodIn_of _ (by decide +kernel)) ggL_law_X4_temperOf
set_option maxRecDepth 20000 in
theorem ggL_law_L_calmFor : GoodIn wsL_law wsL_calmFor := goodIn_ca (goodIn_r _ [537, 110, 538, 539, 540, 2, 541, 16, 115, 542, 241, 242, 243, 244, 187, 188, 189, 25, 190, 130, 121, 122, 123, 124, 125, 862, 863, 873, 874, 875, 876, 877, 878, 879, 880, 881, 882, 883, 884] (by decide +kernel) (by decide +kernel)) (goodIn_sub (fun _ h => List.mem_append_right _ h) (by decide +kernel))
set_option maxRecDepth 20000 in
theorem gL_law_L_calmFor : GoodIn wsL_law (va_wsS RL 193 yL_calmFor wsL_calmFor) := goodIn_app (goodIn_of _ (by decide +kernel)) ggL_law_L_calmFor
set_option maxRecDepth 20000 in
theorem ggL_law_X4_calmFor : GoodIn wsL_law wsX4_calmFor := goodIn_r _ [546, 531, 532, 533, 5, 534, 93, 195, 196, 197, 198, 135, 96, 97, 98, 276, 277, 278, 279, 53, 99, 100, 101, 102, 864, 865, 866, 867, 868, 869, 870, 871, 872] (by decide +kernel) (by decide +kernel)
set_option maxRecDepth 20000 in
theorem gL_law_X4_calmFor : GoodIn wsL_law (wsV RL 195 RX4 yX4_calmFor wsX4_calmFor) := goodIn_app (goodIn_of _ (by decide +kernel)) ggL_law_X4_calmFor
set_option maxRecDepth 20000 in
theorem ggL_law_L_eatenBy : GoodIn wsL_law wsL_eatenBy := goodIn_ca (goodIn_r _ [549, 110, 550, 551, 552, 2, 553, 16, 115, 554, 241, 242, 243, 244, 187, 188, 189, 25, 190, 130, 121, 122, 123, 124, 125, 862, 863, 873, 874, 875, 876, 877, 878, 879, 880, 881, 882, 883, 884] (by decide +kernel) (by decide +kernel)) (goodIn_sub (fun _ h => List.mem_append_right _ h) (by decide +kernel))
set_option maxRecDepth 20000 in
theorem gL_law_L_eatenBy : GoodIn wsL_law (va_wsS RL 196 yL_eatenBy wsL_eatenBy) := goodIn_app (goodIn_of _ (by decide +kernel)) ggL_law_L_eatenBy
set_option maxRecDepth 20000 in
theorem ggL_law_X4_eatenBy : GoodIn wsL_law wsX4_eatenBy := goodIn_r _ [558, 531, 532, 533, 5, 534, 93, 195, 196, 197, 198, 135, 96, 97, 98, 276, 277, 278, 279, 53, 99, 100, 101, 102, 864, 865, 866, 867, 868, 869, 870, 871, 872] (by decide +kernel) (by decide +kernel)
set_option maxRecDepth 20000 in
theorem gL_law_X4_eatenBy : GoodIn wsL_law (wsV RL 198 RX4 yX4_eatenBy wsX4_eatenBy) := goodIn_app (goodIn_of _ (by decide +kernel)) ggL_law_X4_eatenBy
set_option maxRecDepth 20000 in
theorem ggL_law_L_passedBy : GoodIn wsL_law wsL_passedBy := goodIn_ca (goodIn_r _ [561, 110, 562, 563, 564, 2, 565, 16, 66, 239, 211, 212, 213, 214, 215, 216, 217, 29, 218, 158, 121, 122, 123, 124, 125, 862, 863, 873, 874, 875, 876, 877, 878, 879, 885, 886, 887, 888, 889, 890] (by decide +kernel) (by decide +kernel)) (goodIn_sub (fun _ h => List.mem_append_right _ h) (by decide +kernel))
set_option maxRecDepth 20000 in
theorem gL_law_L_passedBy : GoodIn wsL_law (va_wsS RL 199 yL_passedBy wsL_passedBy) := goodIn_app (goodIn_of _ (by decide +kernel)) ggL_law_L_passedBy
set_option maxRecDepth 20000 in
theorem ggL_law_X4_passedBy : GoodIn wsL_law wsX4_passedBy := goodIn_r _ [569, 570, 571, 572, 5, 573, 93, 224, 225, 226, 227, 95, 96, 97, 98, 228, 229, 230, 231, 53, 99, 100, 101, 102, 864, 865, 866, 867, 868, 869, 870, 871, 872] (by decide +kernel) (by decide +kernel)
set_option maxRecDepth 20000 in
theorem gL_law_X4_passedBy : GoodIn wsL_law (wsV RL 201 RX4 yX4_passedBy wsX4_passedBy) := goodIn_app (goodIn_of _ (by decide +kernel)) ggL_law_X4_passedBy
set_option maxRecDepth 20000 in
theorem ggL_law_L_isInFarm : GoodIn wsL_law wsL_isInFarm := goodIn_ca (goodIn_r _ [576, 110, 577, 578, 579, 2, 580, 16, 211, 212, 213, 214, 66, 215, 216, 217, 29, 218, 158, 121, 122, 123, 124, 125, 245, 246, 247, 15, 248, 30, 249, 88, 862, 863, 873, 874, 875, 876, 877, 878, 879, 885, 886, 887, 888, 889, 890] (by decide +kernel) (by decide +kernel)) (goodIn_sub (fun _ h => List.mem_append_right _ h) (by decide +kernel))
set_option maxRecDepth 20000 in
theorem gL_law_L_isInFarm : GoodIn wsL_law (va_wsS RL 202 yL_isInFarm wsL_isInFarm) := goodIn_app (goodIn_of _ (by decide +kernel)) ggL_law_L_isInFarm
set_option maxRecDepth 20000 in
theorem ggL_law_X4_isInFarm : GoodIn wsL_law wsX4_isInFarm := goodIn_r _ [584, 93, 224, 225, 226, 5, 227, 95, 96, 97, 98, 267, 268, 269, 270, 94, 228, 229, 230, 231, 53, 864, 865, 866, 867, 868, 869, 870, 871, 872] (by decide +kernel) (by decide +kernel)
set_option maxRecDepth 20000 in
theorem gL_law_X4_isInFarm : GoodIn wsL_law (wsV RL 204 RX4 yX4_isInFarm wsX4_isInFarm) := goodIn_app (goodIn_of _ (by decide +kernel)) ggL_law_X4_isInFarm
set_option maxRecDepth 20000 in
theorem ggL_law_L_cornsOf : GoodIn wsL_law wsL_cornsOf := goodIn_ca (goodIn_r _ [587, 110, 588, 589, 590, 2, 591, 16, 66, 206, 211, 212, 213, 214, 215, 216, 217, 29, 218, 158, 121, 122, 123, 124, 125, 862, 863, 873, 874, 875, 876, 877, 878, 879, 885, 886, 887, 888, 889, 890] (by decide +kernel) (by decide +kernel)) (goodIn_sub (fun _ h => List.mem_append_right _ h) (by decide +kernel))
set_option maxRecDepth 20000 in
theorem gL_law_L_cornsOf : GoodIn wsL_law (va_wsS RL 205 yL_cornsOf wsL_cornsOf) := goodIn_app (goodIn_of _ (by decide +kernel)) ggL_law_L_cornsOf
set_option maxRecDepth 20000 in
theorem ggL_law_X4_cornsOf : GoodIn wsL_law wsX4_cornsOf := goodIn_r _ [595, 570, 571, 572, 5, 573, 93, 224, 225, 226, 227, 95, 96, 97, 98, 228, 229, 230, 231, 53, 99, 100, 101, 102, 864, 865, 866, 867, 868, 869, 870, 871, 872] (by decide +kernel) (by decide +kernel)
set_option maxRecDepth 20000 in
theorem gL_law_X4_cornsOf : GoodIn wsL_law (wsV RL 207 RX4 yX4_cornsOf wsX4_cornsOf) := goodIn_app (goodIn_of _ (by decide +kernel)) ggL_law_X4_cornsOf
set_option maxRecDepth 20000 in
theorem ggL_law_L_nerveOf : GoodIn wsL_law wsL_nerveOf := goodIn_ca (goodIn_r _ [598, 110, 599, 600, 601, 2, 602, 16, 66, 603, 211, 212, 213, 214, 215, 216, 217, 29, 218, 158, 121, 122, 123, 124, 125, 862, 863, 873, 874, 875, 876, 877, 878, 879, 885, 886, 887, 888, 889, 890] (by decide +kernel) (by decide +kernel)) (goodIn_sub (fun _ h => List.mem_append_right _ h) (by decide +kernel))
set_option maxRecDepth 20000 in
theorem gL_law_L_nerveOf : GoodIn wsL_law (va_wsS RL 208 yL_nerveOf wsL_nerveOf) := goodIn_app (goodIn_of _ (by decide +kernel)) ggL_law_L_nerveOf
