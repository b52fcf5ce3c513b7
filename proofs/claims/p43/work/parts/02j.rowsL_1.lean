theorem dL_build_64 : decode cL_build 64 = .ok (.areturn, 1) := by decide +kernel
theorem dL_build_65 : decode cL_build 65 = .ok (.iinc 4 1, 3) := by decide +kernel
theorem dL_build_68 : decode cL_build 68 = .ok (.goto (-44), 3) := by decide +kernel
theorem dL_build_71 : decode cL_build 71 = .ok (.bipush 10, 2) := by decide +kernel
theorem dL_build_73 : decode cL_build 73 = .ok (.aload_n 1, 1) := by decide +kernel
theorem dL_build_74 : decode cL_build 74 = .ok (.iconst 0, 1) := by decide +kernel
theorem dL_build_75 : decode cL_build 75 = .ok (.invokestatic 80, 3) := by decide +kernel
theorem dL_build_78 : decode cL_build 78 = .ok (.bipush 44, 2) := by decide +kernel
theorem dL_build_80 : decode cL_build 80 = .ok (.invokestatic 22, 3) := by decide +kernel
theorem dL_build_83 : decode cL_build 83 = .ok (.iadd, 1) := by decide +kernel
theorem dL_build_84 : decode cL_build 84 = .ok (.istore 4, 2) := by decide +kernel
theorem dL_build_86 : decode cL_build 86 = .ok (.iconst 0, 1) := by decide +kernel
theorem dL_build_87 : decode cL_build 87 = .ok (.istore 5, 2) := by decide +kernel
theorem dL_build_89 : decode cL_build 89 = .ok (.iload 5, 2) := by decide +kernel
theorem dL_build_91 : decode cL_build 91 = .ok (.iload 4, 2) := by decide +kernel
theorem dL_build_93 : decode cL_build 93 = .ok (.if_icmp .ge 43, 3) := by decide +kernel
theorem dL_build_96 : decode cL_build 96 = .ok (.aload_n 0, 1) := by decide +kernel
theorem dL_build_97 : decode cL_build 97 = .ok (.aload_n 2, 1) := by decide +kernel
theorem dL_build_98 : decode cL_build 98 = .ok (.aload_n 1, 1) := by decide +kernel
theorem dL_build_99 : decode cL_build 99 = .ok (.iload 5, 2) := by decide +kernel
theorem dL_build_101 : decode cL_build 101 = .ok (.bipush 16, 2) := by decide +kernel
theorem dL_build_103 : decode cL_build 103 = .ok (.irem, 1) := by decide +kernel
theorem dL_build_104 : decode cL_build 104 = .ok (.invokestatic 80, 3) := by decide +kernel
theorem dL_build_107 : decode cL_build 107 = .ok (.iload 5, 2) := by decide +kernel
theorem dL_build_109 : decode cL_build 109 = .ok (.bipush 16, 2) := by decide +kernel
theorem dL_build_111 : decode cL_build 111 = .ok (.idiv, 1) := by decide +kernel
theorem dL_build_112 : decode cL_build 112 = .ok (.iconst 3, 1) := by decide +kernel
theorem dL_build_113 : decode cL_build 113 = .ok (.imul, 1) := by decide +kernel
theorem dL_build_114 : decode cL_build 114 = .ok (.ishr, 1) := by decide +kernel
theorem dL_build_115 : decode cL_build 115 = .ok (.sipush 673, 3) := by decide +kernel
theorem dL_build_118 : decode cL_build 118 = .ok (.iload 5, 2) := by decide +kernel
theorem dL_build_120 : decode cL_build 120 = .ok (.imul, 1) := by decide +kernel
theorem dL_build_121 : decode cL_build 121 = .ok (.iadd, 1) := by decide +kernel
theorem dL_build_122 : decode cL_build 122 = .ok (.invokestatic 84, 3) := by decide +kernel
theorem dL_build_125 : decode cL_build 125 = .ok (.ifCond .ne 5, 3) := by decide +kernel
theorem dL_build_128 : decode cL_build 128 = .ok (.aconst_null, 1) := by decide +kernel
theorem dL_build_129 : decode cL_build 129 = .ok (.areturn, 1) := by decide +kernel
theorem dL_build_130 : decode cL_build 130 = .ok (.iinc 5 1, 3) := by decide +kernel
theorem dL_build_133 : decode cL_build 133 = .ok (.goto (-44), 3) := by decide +kernel
theorem dL_build_136 : decode cL_build 136 = .ok (.aload_n 2, 1) := by decide +kernel
theorem dL_build_137 : decode cL_build 137 = .ok (.areturn, 1) := by decide +kernel
set_option maxRecDepth 20000 in
theorem ggL_law_X3_init : GoodIn wsL_law wsX3_init := goodIn_r _ [13, 14, 15, 16, 17, 18, 19, 20, 21, 22, 23, 24, 3, 25, 26, 27, 28, 29, 30, 31, 32, 33, 34, 35, 36, 37, 38, 39, 40, 41, 42, 43, 44, 45, 46, 47, 48, 451, 452, 453, 454, 455, 456, 457, 449, 450, 458, 459, 460, 461, 462, 463, 464, 465, 466, 467, 468] (by decide +kernel) (by decide +kernel)
set_option maxRecDepth 20000 in
theorem gL_law_X3_init : GoodIn wsL_law (wsX3_init) := ggL_law_X3_init
set_option maxRecDepth 20000 in
theorem ggL_law_L_build : GoodIn wsL_law wsL_build := goodIn_ca (goodIn_ca (goodIn_ca (goodIn_r _ [52, 53, 54, 55, 56, 57, 58, 59, 15, 16, 3, 60, 61, 62, 63, 64, 65, 51, 66, 67, 68, 69, 70, 71, 72, 73, 74, 75, 76, 77, 78, 2, 79, 20, 80, 81, 82, 83, 84, 85, 86, 87, 88, 89, 90, 91, 92, 93, 94, 95, 96, 97, 98, 99, 100, 101, 19, 102, 103, 25, 104, 105, 106, 107, 108, 4, 5, 6, 7, 109, 110, 111, 112, 113, 114, 115, 116, 117, 118, 119, 120, 121, 122, 123, 124, 125, 126, 127, 128, 129, 28, 130, 131, 37, 38, 132, 133, 134, 135, 136, 137, 138, 139, 140, 141, 32, 142, 143, 44, 45, 46, 144, 145, 146, 147, 148, 149, 150, 151, 152, 153, 154, 155, 156, 157, 158, 159, 160, 161, 162, 163, 164, 165, 166, 167, 168, 169, 170, 171, 172, 173, 174, 175, 176, 177, 178, 179, 180, 181, 182, 183, 184, 185, 186, 187, 188, 189, 190, 191, 192, 193, 194, 33, 195, 196, 197, 198, 199, 200, 29, 201, 202, 203, 204, 205, 40, 39, 206, 9, 10, 207, 208, 209, 210, 211, 212, 213, 214, 215, 216, 217, 218, 219, 220, 221, 222, 223, 224, 225, 226, 227, 228, 229, 230, 231, 232, 233, 234, 235, 236, 237, 238, 239, 240, 241, 242, 243, 244, 245, 246, 247, 248, 249, 250, 251, 252, 253, 254, 255, 256, 257, 258, 259, 260, 261, 262, 263, 264, 265, 266, 267, 268, 269, 270, 271, 272, 273, 274, 275, 48, 276, 47, 277, 278, 279, 280, 281, 282, 283, 284, 285, 286, 287, 288, 289, 290, 291, 292, 293, 294, 295, 296, 297, 298, 299, 300, 301, 302, 303, 469, 470, 471, 472, 473, 474, 449, 450, 451, 452, 453, 454, 455, 456, 457, 463, 464, 465, 466, 467, 468, 458, 459, 460, 461, 462] (by decide +kernel) (by decide +kernel)) (goodIn_sub (fun _ h => List.mem_append_left _ (List.mem_append_left _ (List.mem_append_right _ h))) (by decide +kernel))) (goodIn_sub (fun _ h => List.mem_append_left _ (List.mem_append_right _ h)) (by decide +kernel))) (goodIn_sub (fun _ h => List.mem_append_right _ h) (by decide +kernel))
set_option maxRecDepth 20000 in
theorem gL_law_L_build : GoodIn wsL_law (va_wsS RL 89 yL_build wsL_build) := goodIn_app (goodIn_of _ (by decide +kernel)) ggL_law_L_build
set_option maxRecDepth 20000 in
theorem ggL_law_L_cell : GoodIn wsL_law wsL_cell := goodIn_r _ [66, 67] (by decide +kernel) (by decide +kernel)
set_option maxRecDepth 20000 in
theorem gL_law_L_cell : GoodIn wsL_law (va_wsS RL 80 yL_cell wsL_cell) := goodIn_app (goodIn_of _ (by decide +kernel)) ggL_law_L_cell
set_option maxRecDepth 20000 in
theorem ggL_law_L_act : GoodIn wsL_law wsL_act := goodIn_ca (goodIn_ca (goodIn_ca (goodIn_r _ [106, 56, 107, 108, 3, 4, 5, 6, 7, 68, 69, 51, 70, 71, 72, 73, 74, 55, 75, 60, 76, 77, 78, 2, 79, 20, 80, 81, 82, 83, 84, 85, 86, 87, 88, 89, 90, 91, 92, 93, 94, 95, 96, 97, 98, 99, 100, 101, 19, 102, 103, 25, 109, 110, 111, 61, 112, 113, 114, 115, 116, 117, 118, 119, 120, 121, 122, 123, 124, 125, 126, 127, 128, 129, 28, 130, 131, 37, 38, 132, 133, 134, 135, 136, 137, 138, 139, 140, 141, 32, 142, 143, 44, 45, 46, 144, 145, 146, 147, 148, 149, 150, 151, 152, 153, 154, 155, 156, 157, 158, 159, 160, 161, 162, 163, 164, 165, 166, 167, 168, 169, 170, 171, 172, 173, 174, 175, 176, 177, 178, 179, 180, 181, 182, 183, 184, 185, 186, 187, 188, 189, 190, 191, 192, 193, 194, 33, 195, 196, 197, 198, 199, 200, 29, 201, 202, 203, 204, 205, 40, 39, 206, 9, 10, 207, 208, 209, 210, 211, 212, 213, 214, 215, 216, 217, 218, 219, 220, 221, 222, 223, 224, 225, 226, 227, 228, 229, 230, 231, 232, 233, 234, 235, 236, 237, 238, 239, 240, 241, 242, 243, 244, 245, 246, 247, 248, 249, 250, 251, 252, 253, 254, 255, 256, 257, 258, 259, 260, 261, 262, 263, 264, 265, 266, 267, 268, 269, 270, 271, 272, 273, 274, 275, 48, 276, 47, 277, 278, 279, 280, 281, 282, 283, 284, 63, 285, 286, 287, 288, 289, 62, 290, 291, 292, 293, 294, 295, 296, 297, 298, 299, 300, 301, 302, 303, 469, 470, 471, 472, 473, 474, 449, 450, 451, 452, 453, 454, 455, 456, 457, 463, 464, 465, 466, 467, 468, 458, 459, 460, 461, 462] (by decide +kernel) (by decide +kernel)) (goodIn_sub (fun _ h => List.mem_append_left _ (List.mem_append_left _ (List.mem_append_right _ h))) (by decide +kernel))) (goodIn_sub (fun _ h => List.mem_append_left _ (List.mem_append_right _ h)) (by decide +kernel))) (goodIn_sub (fun _ h => List.mem_append_right _ h) (by decide +kernel))
set_option maxRecDepth 20000 in
theorem gL_law_L_act : GoodIn wsL_law (va_wsS RL 84 yL_act wsL_act) := goodIn_app (goodIn_of _ (by decide +kernel)) ggL_law_L_act
set_option maxRecDepth 20000 in
theorem ggL_law_X3_gates : GoodIn wsL_law wsX3_gates := goodIn_r _ [307, 20, 80, 449, 450, 451, 452, 453, 454, 455, 456, 457] (by decide +kernel) (by decide +kernel)
set_option maxRecDepth 20000 in
theorem gL_law_X3_gates : GoodIn wsL_law (wsV RL 93 RX3 yX3_gates wsX3_gates) := goodIn_app (goodIn_of _ (by decide +kernel)) ggL_law_X3_gates
set_option maxRecDepth 20000 in
theorem ggL_law_X3_geese : GoodIn wsL_law wsX3_geese := goodIn_r _ [311, 20, 116, 117, 449, 450, 451, 452, 453, 454, 455, 456, 457, 458, 459, 460, 461, 462] (by decide +kernel) (by decide +kernel)
set_option maxRecDepth 20000 in
theorem gL_law_X3_geese : GoodIn wsL_law (wsV RL 97 RX3 yX3_geese wsX3_geese) := goodIn_app (goodIn_of _ (by decide +kernel)) ggL_law_X3_geese
set_option maxRecDepth 20000 in
theorem ggL_law_X3_visitors : GoodIn wsL_law wsX3_visitors := goodIn_r _ [315, 20, 81, 82, 449, 450, 451, 452, 453, 454, 455, 456, 457, 463, 464, 465, 466, 467, 468] (by decide +kernel) (by decide +kernel)
set_option maxRecDepth 20000 in
theorem gL_law_X3_visitors : GoodIn wsL_law (wsV RL 99 RX3 yX3_visitors wsX3_visitors) := goodIn_app (goodIn_of _ (by decide +kernel)) ggL_law_X3_visitors
set_option maxRecDepth 20000 in
theorem ggL_law_L_below : GoodIn wsL_law wsL_below := goodIn_r _ [70, 71] (by decide +kernel) (by decide +kernel)
set_option maxRecDepth 20000 in
theorem gL_law_L_below : GoodIn wsL_law (va_wsS RL 22 yL_below wsL_below) := goodIn_app (goodIn_of _ (by decide +kernel)) ggL_law_L_below
set_option maxRecDepth 20000 in
theorem ggL_law_X3_hissOf : GoodIn wsL_law wsX3_hissOf := goodIn_ca (goodIn_ca (goodIn_r _ [319, 20, 118, 119, 120, 19, 121, 103, 122, 123, 2, 124, 125, 126, 83, 84, 85, 86, 87, 88, 89, 90, 91, 92, 93, 320, 242, 243, 244, 29, 245, 246, 247, 248, 25, 249, 9, 6, 10, 250, 251, 252, 253, 28, 254, 131, 38, 255, 256, 257, 258, 37, 39, 449, 450, 451, 452, 453, 454, 455, 456, 457, 458, 459, 460, 461, 462] (by decide +kernel) (by decide +kernel)) (goodIn_sub (fun _ h => List.mem_append_right _ h) (by decide +kernel))) (goodIn_sub (fun _ h => List.mem_append_left _ (List.mem_append_left _ (List.mem_append_right _ h))) (by decide +kernel))
set_option maxRecDepth 20000 in
theorem gL_law_X3_hissOf : GoodIn wsL_law (wsV RL 101 RX3 yX3_hissOf wsX3_hissOf) := goodIn_app (goodIn_of _ (by decide +kernel)) ggL_law_X3_hissOf
set_option maxRecDepth 20000 in
theorem ggL_law_X3_awakeAt : GoodIn wsL_law wsX3_awakeAt := goodIn_ca (goodIn_r _ [324, 20, 116, 118, 119, 120, 19, 121, 103, 122, 123, 2, 124, 125, 126, 325, 326, 327, 28, 328, 131, 255, 256, 257, 258, 37, 39, 449, 450, 451, 452, 453, 454, 455, 456, 457, 458, 459, 460, 461, 462] (by decide +kernel) (by decide +kernel)) (goodIn_sub (fun _ h => List.mem_append_right _ h) (by decide +kernel))
set_option maxRecDepth 20000 in
theorem gL_law_X3_awakeAt : GoodIn wsL_law (wsV RL 104 RX3 yX3_awakeAt wsX3_awakeAt) := goodIn_app (goodIn_of _ (by decide +kernel)) ggL_law_X3_awakeAt
set_option maxRecDepth 20000 in
theorem ggL_law_X3_loudestGate : GoodIn wsL_law wsX3_loudestGate := goodIn_r _ [332, 20, 80, 320, 242, 243, 19, 244, 29, 245, 246, 247, 248, 25, 249, 9, 6, 10, 250, 119, 120, 121, 103, 251, 252, 253, 28, 254, 131, 38, 255, 256, 257, 258, 37, 39, 449, 450, 451, 452, 453, 454, 455, 456, 457, 458, 459, 460, 461, 462] (by decide +kernel) (by decide +kernel)
set_option maxRecDepth 20000 in
theorem gL_law_X3_loudestGate : GoodIn wsL_law (wsV RL 107 RX3 yX3_loudestGate wsX3_loudestGate) := goodIn_app (goodIn_of _ (by decide +kernel)) ggL_law_X3_loudestGate
set_option maxRecDepth 20000 in
theorem ggL_law_X3_rankOf : GoodIn wsL_law wsX3_rankOf := goodIn_ca (goodIn_r _ [336, 20, 148, 118, 119, 120, 19, 121, 103, 122, 123, 2, 124, 125, 126, 449, 450, 451, 452, 453, 454, 455, 456, 457] (by decide +kernel) (by decide +kernel)) (goodIn_sub (fun _ h => List.mem_append_right _ h) (by decide +kernel))
set_option maxRecDepth 20000 in
theorem gL_law_X3_rankOf : GoodIn wsL_law (wsV RL 110 RX3 yX3_rankOf wsX3_rankOf) := goodIn_app (goodIn_of _ (by decide +kernel)) ggL_law_X3_rankOf
set_option maxRecDepth 20000 in
theorem ggL_law_X3_temperOf : GoodIn wsL_law wsX3_temperOf := goodIn_ca (goodIn_r _ [340, 20, 116, 186, 187, 188, 189, 2, 190, 154, 155, 156, 28, 157, 131, 122, 123, 124, 125, 126, 449, 450, 451, 452, 453, 454, 455, 456, 457, 458, 459, 460, 461, 462] (by decide +kernel) (by decide +kernel)) (goodIn_sub (fun _ h => List.mem_append_right _ h) (by decide +kernel))
set_option maxRecDepth 20000 in
theorem gL_law_X3_temperOf : GoodIn wsL_law (wsV RL 113 RX3 yX3_temperOf wsX3_temperOf) := goodIn_app (goodIn_of _ (by decide +kernel)) ggL_law_X3_temperOf
set_option maxRecDepth 20000 in
theorem ggL_law_X3_calmFor : GoodIn wsL_law wsX3_calmFor := goodIn_ca (goodIn_r _ [344, 20, 116, 345, 187, 188, 189, 2, 190, 154, 155, 156, 28, 157, 131, 122, 123, 124, 125, 126, 449, 450, 451, 452, 453, 454, 455, 456, 457, 458, 459, 460, 461, 462] (by decide +kernel) (by decide +kernel)) (goodIn_sub (fun _ h => List.mem_append_right _ h) (by decide +kernel))
set_option maxRecDepth 20000 in
theorem gL_law_X3_calmFor : GoodIn wsL_law (wsV RL 116 RX3 yX3_calmFor wsX3_calmFor) := goodIn_app (goodIn_of _ (by decide +kernel)) ggL_law_X3_calmFor
set_option maxRecDepth 20000 in
theorem ggL_law_X3_eatenBy : GoodIn wsL_law wsX3_eatenBy := goodIn_ca (goodIn_r _ [349, 20, 116, 350, 187, 188, 189, 2, 190, 154, 155, 156, 28, 157, 131, 122, 123, 124, 125, 126, 449, 450, 451, 452, 453, 454, 455, 456, 457, 458, 459, 460, 461, 462] (by decide +kernel) (by decide +kernel)) (goodIn_sub (fun _ h => List.mem_append_right _ h) (by decide +kernel))
set_option maxRecDepth 20000 in
theorem gL_law_X3_eatenBy : GoodIn wsL_law (wsV RL 119 RX3 yX3_eatenBy wsX3_eatenBy) := goodIn_app (goodIn_of _ (by decide +kernel)) ggL_law_X3_eatenBy
set_option maxRecDepth 20000 in
theorem ggL_law_X3_passedBy : GoodIn wsL_law wsX3_passedBy := goodIn_ca (goodIn_r _ [354, 20, 81, 185, 164, 165, 166, 2, 167, 168, 169, 170, 32, 171, 143, 122, 123, 124, 125, 126, 449, 450, 451, 452, 453, 454, 455, 456, 457, 463, 464, 465, 466, 467, 468] (by decide +kernel) (by decide +kernel)) (goodIn_sub (fun _ h => List.mem_append_right _ h) (by decide +kernel))
set_option maxRecDepth 20000 in
theorem gL_law_X3_passedBy : GoodIn wsL_law (wsV RL 122 RX3 yX3_passedBy wsX3_passedBy) := goodIn_app (goodIn_of _ (by decide +kernel)) ggL_law_X3_passedBy
set_option maxRecDepth 20000 in
theorem ggL_law_X3_cornsOf : GoodIn wsL_law wsX3_cornsOf := goodIn_ca (goodIn_r _ [358, 20, 81, 162, 164, 165, 166, 2, 167, 168, 169, 170, 32, 171, 143, 122, 123, 124, 125, 126, 449, 450, 451, 452, 453, 454, 455, 456, 457, 463, 464, 465, 466, 467, 468] (by decide +kernel) (by decide +kernel)) (goodIn_sub (fun _ h => List.mem_append_right _ h) (by decide +kernel))
set_option maxRecDepth 20000 in
theorem gL_law_X3_cornsOf : GoodIn wsL_law (wsV RL 125 RX3 yX3_cornsOf wsX3_cornsOf) := goodIn_app (goodIn_of _ (by decide +kernel)) ggL_law_X3_cornsOf
set_option maxRecDepth 20000 in
theorem ggL_law_X3_nerveOf : GoodIn wsL_law wsX3_nerveOf := goodIn_ca (goodIn_r _ [362, 20, 81, 363, 164, 165, 166, 2, 167, 168, 169, 170, 32, 171, 143, 122, 123, 124, 125, 126, 449, 450, 451, 452, 453, 454, 455, 456, 457, 463, 464, 465, 466, 467, 468] (by decide +kernel) (by decide +kernel)) (goodIn_sub (fun _ h => List.mem_append_right _ h) (by decide +kernel))
set_option maxRecDepth 20000 in
theorem gL_law_X3_nerveOf : GoodIn wsL_law (wsV RL 128 RX3 yX3_nerveOf wsX3_nerveOf) := goodIn_app (goodIn_of _ (by decide +kernel)) ggL_law_X3_nerveOf
set_option maxRecDepth 20000 in
theorem ggL_law_X3_retreatOf : GoodIn wsL_law wsX3_retreatOf := goodIn_ca (goodIn_r _ [367, 20, 81, 368, 164, 165, 166, 2, 167, 168, 169, 170, 32, 171, 143, 122, 123, 124, 125, 126, 449, 450, 451, 452, 453, 454, 455, 456, 457, 463, 464, 465, 466, 467, 468] (by decide +kernel) (by decide +kernel)) (goodIn_sub (fun _ h => List.mem_append_right _ h) (by decide +kernel))
set_option maxRecDepth 20000 in
theorem gL_law_X3_retreatOf : GoodIn wsL_law (wsV RL 131 RX3 yX3_retreatOf wsX3_retreatOf) := goodIn_app (goodIn_of _ (by decide +kernel)) ggL_law_X3_retreatOf
set_option maxRecDepth 20000 in
theorem ggL_law_X3_gradeFor : GoodIn wsL_law wsX3_gradeFor := goodIn_ca (goodIn_r _ [372, 20, 164, 165, 166, 2, 167, 81, 168, 169, 170, 32, 171, 143, 122, 123, 124, 125, 126, 373, 374, 375, 19, 376, 33, 195, 238, 241, 242, 243, 244, 29, 245, 246, 247, 248, 25, 249, 9, 6, 10, 250, 119, 120, 121, 103, 251, 252, 253, 28, 254, 131, 38, 255, 256, 257, 258, 37, 39, 377, 270, 271, 449, 450, 451, 452, 453, 454, 455, 456, 457, 463, 464, 465, 466, 467, 468, 458, 459, 460, 461, 462] (by decide +kernel) (by decide +kernel)) (goodIn_sub (fun _ h => List.mem_append_right _ h) (by decide +kernel))
set_option maxRecDepth 20000 in
theorem gL_law_X3_gradeFor : GoodIn wsL_law (wsV RL 134 RX3 yX3_gradeFor wsX3_gradeFor) := goodIn_app (goodIn_of _ (by decide +kernel)) ggL_law_X3_gradeFor
set_option maxRecDepth 20000 in
theorem ggL_law_X3_hissAt : GoodIn wsL_law wsX3_hissAt := goodIn_ca (goodIn_r _ [381, 20, 164, 165, 166, 2, 167, 81, 168, 169, 170, 32, 171, 143, 122, 123, 124, 125, 126, 373, 374, 375, 19, 376, 33, 195, 238, 241, 242, 243, 244, 29, 245, 246, 247, 248, 25, 249, 9, 6, 10, 250, 119, 120, 121, 103, 251, 252, 253, 28, 254, 131, 38, 255, 256, 257, 258, 37, 39, 449, 450, 451, 452, 453, 454, 455, 456, 457, 463, 464, 465, 466, 467, 468, 458, 459, 460, 461, 462] (by decide +kernel) (by decide +kernel)) (goodIn_sub (fun _ h => List.mem_append_right _ h) (by decide +kernel))
set_option maxRecDepth 20000 in
theorem gL_law_X3_hissAt : GoodIn wsL_law (wsV RL 137 RX3 yX3_hissAt wsX3_hissAt) := goodIn_app (goodIn_of _ (by decide +kernel)) ggL_law_X3_hissAt
set_option maxRecDepth 20000 in
theorem ggL_law_X3_isInFarm : GoodIn wsL_law wsX3_isInFarm := goodIn_ca (goodIn_r _ [385, 20, 164, 165, 166, 2, 167, 81, 168, 169, 170, 32, 171, 143, 122, 123, 124, 125, 126, 191, 192, 193, 19, 194, 33, 195, 103, 449, 450, 451, 452, 453, 454, 455, 456, 457, 463, 464, 465, 466, 467, 468] (by decide +kernel) (by decide +kernel)) (goodIn_sub (fun _ h => List.mem_append_right _ h) (by decide +kernel))
set_option maxRecDepth 20000 in
theorem gL_law_X3_isInFarm : GoodIn wsL_law (wsV RL 140 RX3 yX3_isInFarm wsX3_isInFarm) := goodIn_app (goodIn_of _ (by decide +kernel)) ggL_law_X3_isInFarm
set_option maxRecDepth 20000 in
theorem ggL_law_X3_dares : GoodIn wsL_law wsX3_dares := goodIn_ca (goodIn_r _ [389, 20, 81, 363, 164, 165, 166, 2, 167, 168, 169, 170, 32, 171, 143, 122, 123, 124, 125, 126, 191, 192, 193, 19, 194, 33, 195, 103, 373, 374, 375, 376, 238, 241, 242, 243, 244, 29, 245, 246, 247, 248, 25, 249, 9, 6, 10, 250, 119, 120, 121, 251, 252, 253, 28, 254, 131, 38, 255, 256, 257, 258, 37, 39, 449, 450, 451, 452, 453, 454, 455, 456, 457, 463, 464, 465, 466, 467, 468, 458, 459, 460, 461, 462] (by decide +kernel) (by decide +kernel)) (goodIn_sub (fun _ h => List.mem_append_right _ h) (by decide +kernel))
set_option maxRecDepth 20000 in
theorem gL_law_X3_dares : GoodIn wsL_law (wsV RL 144 RX3 yX3_dares wsX3_dares) := goodIn_app (goodIn_of _ (by decide +kernel)) ggL_law_X3_dares
set_option maxRecDepth 20000 in
theorem ggL_law_X3_bribes : GoodIn wsL_law wsX3_bribes := goodIn_r _ [393, 20, 394, 449, 450, 451, 452, 453, 454, 455, 456, 457] (by decide +kernel) (by decide +kernel)
set_option maxRecDepth 20000 in
theorem gL_law_X3_bribes : GoodIn wsL_law (wsV RL 147 RX3 yX3_bribes wsX3_bribes) := goodIn_app (goodIn_of _ (by decide +kernel)) ggL_law_X3_bribes
set_option maxRecDepth 20000 in
theorem ggL_law_X3_inFarm : GoodIn wsL_law wsX3_inFarm := goodIn_r _ [398, 20, 214, 215, 216, 19, 217, 33, 218, 219, 192, 193, 194, 195, 103, 449, 450, 451, 452, 453, 454, 455, 456, 457, 463, 464, 465, 466, 467, 468] (by decide +kernel) (by decide +kernel)
set_option maxRecDepth 20000 in
theorem gL_law_X3_inFarm : GoodIn wsL_law (wsV RL 150 RX3 yX3_inFarm wsX3_inFarm) := goodIn_app (goodIn_of _ (by decide +kernel)) ggL_law_X3_inFarm
set_option maxRecDepth 20000 in
theorem ggL_law_X3_meanTemper : GoodIn wsL_law wsX3_meanTemper := goodIn_r _ [402, 20, 116, 117, 403, 404, 405, 28, 406, 131, 38, 449, 450, 451, 452, 453, 454, 455, 456, 457, 458, 459, 460, 461, 462] (by decide +kernel) (by decide +kernel)
set_option maxRecDepth 20000 in
theorem gL_law_X3_meanTemper : GoodIn wsL_law (wsV RL 153 RX3 yX3_meanTemper wsX3_meanTemper) := goodIn_app (goodIn_of _ (by decide +kernel)) ggL_law_X3_meanTemper
set_option maxRecDepth 20000 in
theorem ggL_law_X3_retreats : GoodIn wsL_law wsX3_retreats := goodIn_r _ [410, 20, 411, 449, 450, 451, 452, 453, 454, 455, 456, 457] (by decide +kernel) (by decide +kernel)
set_option maxRecDepth 20000 in
theorem gL_law_X3_retreats : GoodIn wsL_law (wsV RL 157 RX3 yX3_retreats wsX3_retreats) := goodIn_app (goodIn_of _ (by decide +kernel)) ggL_law_X3_retreats
set_option maxRecDepth 20000 in
theorem ggL_law_X3_beats : GoodIn wsL_law wsX3_beats := goodIn_r _ [415, 20, 416, 449, 450, 451, 452, 453, 454, 455, 456, 457] (by decide +kernel) (by decide +kernel)
set_option maxRecDepth 20000 in
theorem gL_law_X3_beats : GoodIn wsL_law (wsV RL 160 RX3 yX3_beats wsX3_beats) := goodIn_app (goodIn_of _ (by decide +kernel)) ggL_law_X3_beats
set_option maxRecDepth 20000 in
theorem ggL_law_X3_passBeats : GoodIn wsL_law wsX3_passBeats := goodIn_ca (goodIn_r _ [210, 20, 211, 212, 2, 213, 86, 87, 88, 89, 90, 91, 92, 93, 214, 215, 216, 19, 217, 33, 218, 219, 192, 193, 194, 195, 103, 220, 221, 222, 223, 224, 225, 226, 227, 29, 228, 229, 230, 231, 28, 232, 131, 39, 233, 234, 235, 236, 237, 238, 239, 200, 240, 241, 242, 243, 244, 245, 246, 247, 248, 25, 249, 9, 6, 10, 250, 119, 120, 121, 251, 252, 253, 254, 38, 255, 256, 257, 258, 37, 259, 260, 261, 262, 263, 5, 7, 264, 265, 266, 267, 268, 155, 156, 157, 269, 197, 198, 199, 201, 202, 203, 204, 205, 40, 206, 270, 271, 272, 273, 274, 32, 275, 48, 45, 276, 47, 449, 450, 451, 452, 453, 454, 455, 456, 457, 463, 464, 465, 466, 467, 468, 458, 459, 460, 461, 462] (by decide +kernel) (by decide +kernel)) (goodIn_sub (fun _ h => List.mem_append_left _ (List.mem_append_left _ (List.mem_append_right _ h))) (by decide +kernel))
set_option maxRecDepth 20000 in
theorem gL_law_X3_passBeats : GoodIn wsL_law (wsV RL 73 RX3 yX3_passBeats wsX3_passBeats) := goodIn_app (goodIn_of _ (by decide +kernel)) ggL_law_X3_passBeats
set_option maxRecDepth 20000 in
theorem ggL_law_X4_pass : GoodIn wsL_law wsX4_pass := goodIn_r _ [289, 62, 63, 290, 291, 285, 173, 174, 55, 175, 60, 292, 293, 294, 295, 296, 297, 298, 299, 300, 177, 178, 179, 180, 301, 302, 303, 3, 469, 470, 471, 472, 473, 474] (by decide +kernel) (by decide +kernel)
set_option maxRecDepth 20000 in
theorem gL_law_X4_pass : GoodIn wsL_law (wsV RL 163 RX4 yX4_pass wsX4_pass) := goodIn_app (goodIn_of _ (by decide +kernel)) ggL_law_X4_pass
set_option maxRecDepth 20000 in
theorem ggL_law_X4_isSame : GoodIn wsL_law wsX4_isSame := goodIn_ca (goodIn_ca (goodIn_r _ [421, 60, 291, 62, 63, 180, 290, 422, 413, 414, 2, 415, 20, 416, 423, 305, 306, 307, 80, 424, 309, 310, 311, 116, 117, 425, 313, 314, 315, 81, 82, 426, 396, 397, 398, 214, 215, 216, 19, 217, 33, 218, 219, 192, 193, 194, 195, 103, 281, 282, 283, 55, 284, 285, 173, 174, 175, 427, 391, 392, 393, 394, 428, 408, 409, 410, 411, 296, 297, 298, 299, 429, 334, 335, 336, 148, 118, 119, 120, 121, 122, 123, 124, 125, 126, 430, 322, 323, 324, 325, 326, 327, 28, 328, 131, 255, 256, 257, 258, 37, 39, 431, 317, 318, 319, 83, 84, 85, 86, 87, 88, 89, 90, 91, 92, 93, 320, 242, 243, 244, 29, 245, 246, 247, 248, 25, 249, 9, 6, 10, 250, 251, 252, 253, 254, 38, 432, 433, 434, 435, 153, 187, 188, 189, 190, 154, 155, 156, 157, 436, 338, 339, 340, 186, 437, 342, 343, 344, 345, 438, 347, 348, 349, 350, 292, 293, 294, 295, 439, 352, 353, 354, 185, 164, 165, 166, 167, 168, 169, 170, 32, 171, 143, 440, 383, 384, 385, 191, 441, 356, 357, 358, 162, 442, 360, 361, 362, 363, 443, 365, 366, 367, 368, 444, 379, 380, 381, 373, 374, 375, 376, 238, 241, 445, 370, 371, 372, 377, 270, 271, 301, 302, 303, 3, 446, 387, 388, 389, 447, 330, 331, 332, 448, 400, 401, 402, 403, 404, 405, 406, 469, 470, 471, 472, 473, 474, 449, 450, 451, 452, 453, 454, 455, 456, 457, 458, 459, 460, 461, 462, 463, 464, 465, 466, 467, 468] (by decide +kernel) (by decide +kernel)) (goodIn_sub (fun _ h => List.mem_append_right _ h) (by decide +kernel))) (goodIn_sub (fun _ h => List.mem_append_left _ (List.mem_append_left _ (List.mem_append_right _ h))) (by decide +kernel))
set_option maxRecDepth 20000 in
theorem gL_law_X4_isSame : GoodIn wsL_law (wsV RL 169 RX4 yX4_isSame wsX4_isSame) := goodIn_app (goodIn_of _ (by decide +kernel)) ggL_law_X4_isSame
theorem dL_law_0 : decode cL_law 0 = .ok (.new 33, 3) := by decide +kernel
theorem dL_law_3 : decode cL_law 3 = .ok (.dup, 1) := by decide +kernel
theorem dL_law_4 : decode cL_law 4 = .ok (.invokespecial 88, 3) := by decide +kernel
theorem dL_law_7 : decode cL_law 7 = .ok (.astore_n 1, 1) := by decide +kernel
theorem dL_law_8 : decode cL_law 8 = .ok (.aload_n 1, 1) := by decide +kernel
theorem dL_law_9 : decode cL_law 9 = .ok (.aload_n 0, 1) := by decide +kernel
theorem dL_law_10 : decode cL_law 10 = .ok (.invokestatic 89, 3) := by decide +kernel
theorem dL_law_13 : decode cL_law 13 = .ok (.astore_n 2, 1) := by decide +kernel
theorem dL_law_14 : decode cL_law 14 = .ok (.aload_n 2, 1) := by decide +kernel
theorem dL_law_15 : decode cL_law 15 = .ok (.ifnonnull 5, 3) := by decide +kernel
theorem dL_law_18 : decode cL_law 18 = .ok (.iconst 0, 1) := by decide +kernel
theorem dL_law_19 : decode cL_law 19 = .ok (.ireturn, 1) := by decide +kernel
theorem dL_law_20 : decode cL_law 20 = .ok (.iconst 0, 1) := by decide +kernel
theorem dL_law_21 : decode cL_law 21 = .ok (.istore_n 3, 1) := by decide +kernel
theorem dL_law_22 : decode cL_law 22 = .ok (.iload_n 3, 1) := by decide +kernel
theorem dL_law_23 : decode cL_law 23 = .ok (.bipush 36, 2) := by decide +kernel
theorem dL_law_25 : decode cL_law 25 = .ok (.if_icmp .ge 1326, 3) := by decide +kernel
theorem dL_law_28 : decode cL_law 28 = .ok (.aload_n 0, 1) := by decide +kernel
theorem dL_law_29 : decode cL_law 29 = .ok (.iload_n 3, 1) := by decide +kernel
theorem dL_law_30 : decode cL_law 30 = .ok (.bipush 16, 2) := by decide +kernel
theorem dL_law_32 : decode cL_law 32 = .ok (.irem, 1) := by decide +kernel
theorem dL_law_33 : decode cL_law 33 = .ok (.invokestatic 80, 3) := by decide +kernel
theorem dL_law_36 : decode cL_law 36 = .ok (.iload_n 3, 1) := by decide +kernel
theorem dL_law_37 : decode cL_law 37 = .ok (.bipush 16, 2) := by decide +kernel
theorem dL_law_39 : decode cL_law 39 = .ok (.idiv, 1) := by decide +kernel
theorem dL_law_40 : decode cL_law 40 = .ok (.iconst 3, 1) := by decide +kernel
theorem dL_law_41 : decode cL_law 41 = .ok (.imul, 1) := by decide +kernel
theorem dL_law_42 : decode cL_law 42 = .ok (.ishr, 1) := by decide +kernel
theorem dL_law_43 : decode cL_law 43 = .ok (.sipush 673, 3) := by decide +kernel
theorem dL_law_46 : decode cL_law 46 = .ok (.iload_n 3, 1) := by decide +kernel
theorem dL_law_47 : decode cL_law 47 = .ok (.imul, 1) := by decide +kernel
theorem dL_law_48 : decode cL_law 48 = .ok (.iadd, 1) := by decide +kernel
theorem dL_law_49 : decode cL_law 49 = .ok (.istore 4, 2) := by decide +kernel
theorem dL_law_51 : decode cL_law 51 = .ok (.aload_n 1, 1) := by decide +kernel
theorem dL_law_52 : decode cL_law 52 = .ok (.aload_n 2, 1) := by decide +kernel
theorem dL_law_53 : decode cL_law 53 = .ok (.iload 4, 2) := by decide +kernel
theorem dL_law_55 : decode cL_law 55 = .ok (.invokestatic 84, 3) := by decide +kernel
theorem dL_law_58 : decode cL_law 58 = .ok (.ifCond .ne 5, 3) := by decide +kernel
theorem dL_law_61 : decode cL_law 61 = .ok (.iconst 0, 1) := by decide +kernel
theorem dL_law_62 : decode cL_law 62 = .ok (.ireturn, 1) := by decide +kernel
theorem dL_law_63 : decode cL_law 63 = .ok (.aload_n 1, 1) := by decide +kernel
theorem dL_law_64 : decode cL_law 64 = .ok (.invokevirtual 93, 3) := by decide +kernel
theorem dL_law_67 : decode cL_law 67 = .ok (.istore 5, 2) := by decide +kernel
theorem dL_law_69 : decode cL_law 69 = .ok (.aload_n 1, 1) := by decide +kernel
theorem dL_law_70 : decode cL_law 70 = .ok (.invokevirtual 97, 3) := by decide +kernel
theorem dL_law_73 : decode cL_law 73 = .ok (.istore 6, 2) := by decide +kernel
theorem dL_law_75 : decode cL_law 75 = .ok (.aload_n 1, 1) := by decide +kernel
theorem dL_law_76 : decode cL_law 76 = .ok (.invokevirtual 99, 3) := by decide +kernel
theorem dL_law_79 : decode cL_law 79 = .ok (.istore 7, 2) := by decide +kernel
theorem dL_law_81 : decode cL_law 81 = .ok (.iload 4, 2) := by decide +kernel
theorem dL_law_83 : decode cL_law 83 = .ok (.iconst 2, 1) := by decide +kernel
theorem dL_law_84 : decode cL_law 84 = .ok (.ishr, 1) := by decide +kernel
theorem dL_law_85 : decode cL_law 85 = .ok (.bipush 9, 2) := by decide +kernel
theorem dL_law_87 : decode cL_law 87 = .ok (.invokestatic 22, 3) := by decide +kernel
theorem dL_law_90 : decode cL_law 90 = .ok (.istore 8, 2) := by decide +kernel
theorem dL_law_92 : decode cL_law 92 = .ok (.iconst 0, 1) := by decide +kernel
theorem dL_law_93 : decode cL_law 93 = .ok (.istore 9, 2) := by decide +kernel
theorem dL_law_95 : decode cL_law 95 = .ok (.iload 9, 2) := by decide +kernel
theorem dL_law_97 : decode cL_law 97 = .ok (.iload 5, 2) := by decide +kernel
theorem dL_law_99 : decode cL_law 99 = .ok (.if_icmp .ge 113, 3) := by decide +kernel
theorem dL_law_102 : decode cL_law 102 = .ok (.aload_n 1, 1) := by decide +kernel
theorem dL_law_103 : decode cL_law 103 = .ok (.iload 9, 2) := by decide +kernel
theorem dL_law_105 : decode cL_law 105 = .ok (.iload 8, 2) := by decide +kernel
theorem dL_law_107 : decode cL_law 107 = .ok (.invokevirtual 101, 3) := by decide +kernel
theorem dL_law_110 : decode cL_law 110 = .ok (.istore 10, 2) := by decide +kernel
theorem dL_law_112 : decode cL_law 112 = .ok (.iload 10, 2) := by decide +kernel
theorem dL_law_114 : decode cL_law 114 = .ok (.ifCond .ne 7, 3) := by decide +kernel
theorem dL_law_117 : decode cL_law 117 = .ok (.iconst 1, 1) := by decide +kernel
theorem dL_law_118 : decode cL_law 118 = .ok (.goto 4, 3) := by decide +kernel
theorem dL_law_121 : decode cL_law 121 = .ok (.iconst 0, 1) := by decide +kernel
theorem dL_law_122 : decode cL_law 122 = .ok (.aload_n 1, 1) := by decide +kernel
theorem dL_law_123 : decode cL_law 123 = .ok (.iload 9, 2) := by decide +kernel
theorem dL_law_125 : decode cL_law 125 = .ok (.invokevirtual 104, 3) := by decide +kernel
theorem dL_law_128 : decode cL_law 128 = .ok (.ifCond .ne 7, 3) := by decide +kernel
theorem dL_law_131 : decode cL_law 131 = .ok (.iconst 1, 1) := by decide +kernel
theorem dL_law_132 : decode cL_law 132 = .ok (.goto 4, 3) := by decide +kernel
theorem dL_law_135 : decode cL_law 135 = .ok (.iconst 0, 1) := by decide +kernel
theorem dL_law_136 : decode cL_law 136 = .ok (.if_icmp .ne 68, 3) := by decide +kernel
theorem dL_law_139 : decode cL_law 139 = .ok (.iload 10, 2) := by decide +kernel
theorem dL_law_141 : decode cL_law 141 = .ok (.aload_n 1, 1) := by decide +kernel
theorem dL_law_142 : decode cL_law 142 = .ok (.iload 9, 2) := by decide +kernel
theorem dL_law_144 : decode cL_law 144 = .ok (.invokevirtual 104, 3) := by decide +kernel
theorem dL_law_147 : decode cL_law 147 = .ok (.if_icmp .lt 57, 3) := by decide +kernel
theorem dL_law_150 : decode cL_law 150 = .ok (.aload_n 1, 1) := by decide +kernel
theorem dL_law_151 : decode cL_law 151 = .ok (.iload 9, 2) := by decide +kernel
theorem dL_law_153 : decode cL_law 153 = .ok (.iload 8, 2) := by decide +kernel
theorem dL_law_155 : decode cL_law 155 = .ok (.iconst 1, 1) := by decide +kernel
theorem dL_law_156 : decode cL_law 156 = .ok (.iadd, 1) := by decide +kernel
theorem dL_law_157 : decode cL_law 157 = .ok (.invokevirtual 101, 3) := by decide +kernel
theorem dL_law_160 : decode cL_law 160 = .ok (.iload 10, 2) := by decide +kernel
theorem dL_law_162 : decode cL_law 162 = .ok (.if_icmp .gt 42, 3) := by decide +kernel
theorem dL_law_165 : decode cL_law 165 = .ok (.aload_n 1, 1) := by decide +kernel
theorem dL_law_166 : decode cL_law 166 = .ok (.iload 9, 2) := by decide +kernel
theorem dL_law_168 : decode cL_law 168 = .ok (.iconst 0, 1) := by decide +kernel
theorem dL_law_169 : decode cL_law 169 = .ok (.invokevirtual 101, 3) := by decide +kernel
theorem dL_law_172 : decode cL_law 172 = .ok (.aload_n 1, 1) := by decide +kernel
theorem dL_law_173 : decode cL_law 173 = .ok (.aload_n 1, 1) := by decide +kernel
theorem dL_law_174 : decode cL_law 174 = .ok (.invokevirtual 107, 3) := by decide +kernel
theorem dL_law_177 : decode cL_law 177 = .ok (.iconst 0, 1) := by decide +kernel
theorem dL_law_178 : decode cL_law 178 = .ok (.invokevirtual 101, 3) := by decide +kernel
theorem dL_law_181 : decode cL_law 181 = .ok (.if_icmp .gt 23, 3) := by decide +kernel
theorem dL_law_184 : decode cL_law 184 = .ok (.aload_n 1, 1) := by decide +kernel
theorem dL_law_185 : decode cL_law 185 = .ok (.iload 9, 2) := by decide +kernel
theorem dL_law_187 : decode cL_law 187 = .ok (.invokevirtual 110, 3) := by decide +kernel
theorem dL_law_190 : decode cL_law 190 = .ok (.ifCond .lt 14, 3) := by decide +kernel
theorem dL_law_193 : decode cL_law 193 = .ok (.aload_n 1, 1) := by decide +kernel
theorem dL_law_194 : decode cL_law 194 = .ok (.iload 9, 2) := by decide +kernel
theorem dL_law_196 : decode cL_law 196 = .ok (.invokevirtual 110, 3) := by decide +kernel
theorem dL_law_199 : decode cL_law 199 = .ok (.bipush 9, 2) := by decide +kernel
theorem dL_law_201 : decode cL_law 201 = .ok (.if_icmp .le 5, 3) := by decide +kernel
theorem dL_law_204 : decode cL_law 204 = .ok (.iconst 0, 1) := by decide +kernel
theorem dL_law_205 : decode cL_law 205 = .ok (.ireturn, 1) := by decide +kernel
theorem dL_law_206 : decode cL_law 206 = .ok (.iinc 9 1, 3) := by decide +kernel
theorem dL_law_209 : decode cL_law 209 = .ok (.goto (-114), 3) := by decide +kernel
theorem dL_law_212 : decode cL_law 212 = .ok (.iconst 0, 1) := by decide +kernel
theorem dL_law_213 : decode cL_law 213 = .ok (.istore 9, 2) := by decide +kernel
theorem dL_law_215 : decode cL_law 215 = .ok (.iconst 0, 1) := by decide +kernel
theorem dL_law_216 : decode cL_law 216 = .ok (.istore 10, 2) := by decide +kernel
theorem dL_law_218 : decode cL_law 218 = .ok (.iconst 0, 1) := by decide +kernel
theorem dL_law_219 : decode cL_law 219 = .ok (.istore 11, 2) := by decide +kernel
theorem dL_law_221 : decode cL_law 221 = .ok (.iload 6, 2) := by decide +kernel
theorem dL_law_223 : decode cL_law 223 = .ok (.newarray .int, 2) := by decide +kernel
theorem dL_law_225 : decode cL_law 225 = .ok (.astore 12, 2) := by decide +kernel
theorem dL_law_227 : decode cL_law 227 = .ok (.iload 6, 2) := by decide +kernel
theorem dL_law_229 : decode cL_law 229 = .ok (.newarray .int, 2) := by decide +kernel
theorem dL_law_231 : decode cL_law 231 = .ok (.astore 13, 2) := by decide +kernel
theorem dL_law_233 : decode cL_law 233 = .ok (.iload 6, 2) := by decide +kernel
theorem dL_law_235 : decode cL_law 235 = .ok (.newarray .int, 2) := by decide +kernel
theorem dL_law_237 : decode cL_law 237 = .ok (.astore 14, 2) := by decide +kernel
theorem dL_law_239 : decode cL_law 239 = .ok (.iconst 0, 1) := by decide +kernel
theorem dL_law_240 : decode cL_law 240 = .ok (.istore 15, 2) := by decide +kernel
theorem dL_law_242 : decode cL_law 242 = .ok (.iload 15, 2) := by decide +kernel
theorem dL_law_244 : decode cL_law 244 = .ok (.iload 6, 2) := by decide +kernel
theorem dL_law_246 : decode cL_law 246 = .ok (.if_icmp .ge 118, 3) := by decide +kernel
theorem dL_law_249 : decode cL_law 249 = .ok (.aload 12, 2) := by decide +kernel
theorem dL_law_251 : decode cL_law 251 = .ok (.iload 15, 2) := by decide +kernel
theorem dL_law_253 : decode cL_law 253 = .ok (.aload_n 1, 1) := by decide +kernel
theorem dL_law_254 : decode cL_law 254 = .ok (.iload 15, 2) := by decide +kernel
theorem dL_law_256 : decode cL_law 256 = .ok (.invokevirtual 113, 3) := by decide +kernel
theorem dL_law_259 : decode cL_law 259 = .ok (.iastore, 1) := by decide +kernel
theorem dL_law_260 : decode cL_law 260 = .ok (.aload 13, 2) := by decide +kernel
theorem dL_law_262 : decode cL_law 262 = .ok (.iload 15, 2) := by decide +kernel
theorem dL_law_264 : decode cL_law 264 = .ok (.aload_n 1, 1) := by decide +kernel
theorem dL_law_265 : decode cL_law 265 = .ok (.iload 15, 2) := by decide +kernel
theorem dL_law_267 : decode cL_law 267 = .ok (.invokevirtual 116, 3) := by decide +kernel
theorem dL_law_270 : decode cL_law 270 = .ok (.iastore, 1) := by decide +kernel
theorem dL_law_271 : decode cL_law 271 = .ok (.aload 14, 2) := by decide +kernel
theorem dL_law_273 : decode cL_law 273 = .ok (.iload 15, 2) := by decide +kernel
theorem dL_law_275 : decode cL_law 275 = .ok (.aload_n 1, 1) := by decide +kernel
theorem dL_law_276 : decode cL_law 276 = .ok (.iload 15, 2) := by decide +kernel
theorem dL_law_278 : decode cL_law 278 = .ok (.invokevirtual 119, 3) := by decide +kernel
theorem dL_law_281 : decode cL_law 281 = .ok (.iastore, 1) := by decide +kernel
theorem dL_law_282 : decode cL_law 282 = .ok (.iload 9, 2) := by decide +kernel
theorem dL_law_284 : decode cL_law 284 = .ok (.aload 14, 2) := by decide +kernel
theorem dL_law_286 : decode cL_law 286 = .ok (.iload 15, 2) := by decide +kernel
theorem dL_law_288 : decode cL_law 288 = .ok (.iaload, 1) := by decide +kernel
theorem dL_law_289 : decode cL_law 289 = .ok (.iadd, 1) := by decide +kernel
theorem dL_law_290 : decode cL_law 290 = .ok (.istore 9, 2) := by decide +kernel
theorem dL_law_292 : decode cL_law 292 = .ok (.iload 11, 2) := by decide +kernel
theorem dL_law_294 : decode cL_law 294 = .ok (.aload 12, 2) := by decide +kernel
theorem dL_law_296 : decode cL_law 296 = .ok (.iload 15, 2) := by decide +kernel
theorem dL_law_298 : decode cL_law 298 = .ok (.iaload, 1) := by decide +kernel
theorem dL_law_299 : decode cL_law 299 = .ok (.iadd, 1) := by decide +kernel
theorem dL_law_300 : decode cL_law 300 = .ok (.istore 11, 2) := by decide +kernel
theorem dL_law_302 : decode cL_law 302 = .ok (.iload 10, 2) := by decide +kernel
theorem dL_law_304 : decode cL_law 304 = .ok (.aload 13, 2) := by decide +kernel
theorem dL_law_306 : decode cL_law 306 = .ok (.iload 15, 2) := by decide +kernel
theorem dL_law_308 : decode cL_law 308 = .ok (.iaload, 1) := by decide +kernel
theorem dL_law_309 : decode cL_law 309 = .ok (.ifCond .ne 7, 3) := by decide +kernel
theorem dL_law_312 : decode cL_law 312 = .ok (.iconst 1, 1) := by decide +kernel
theorem dL_law_313 : decode cL_law 313 = .ok (.goto 4, 3) := by decide +kernel
theorem dL_law_316 : decode cL_law 316 = .ok (.iconst 0, 1) := by decide +kernel
theorem dL_law_317 : decode cL_law 317 = .ok (.iadd, 1) := by decide +kernel
theorem dL_law_318 : decode cL_law 318 = .ok (.istore 10, 2) := by decide +kernel
theorem dL_law_320 : decode cL_law 320 = .ok (.aload 12, 2) := by decide +kernel
theorem dL_law_322 : decode cL_law 322 = .ok (.iload 15, 2) := by decide +kernel
theorem dL_law_324 : decode cL_law 324 = .ok (.iaload, 1) := by decide +kernel
theorem dL_law_325 : decode cL_law 325 = .ok (.iconst 1, 1) := by decide +kernel
theorem dL_law_326 : decode cL_law 326 = .ok (.if_icmp .lt 30, 3) := by decide +kernel
theorem dL_law_329 : decode cL_law 329 = .ok (.aload 12, 2) := by decide +kernel
theorem dL_law_331 : decode cL_law 331 = .ok (.iload 15, 2) := by decide +kernel
theorem dL_law_333 : decode cL_law 333 = .ok (.iaload, 1) := by decide +kernel
theorem dL_law_334 : decode cL_law 334 = .ok (.bipush 9, 2) := by decide +kernel
theorem dL_law_336 : decode cL_law 336 = .ok (.if_icmp .gt 20, 3) := by decide +kernel
theorem dL_law_339 : decode cL_law 339 = .ok (.aload 13, 2) := by decide +kernel
theorem dL_law_341 : decode cL_law 341 = .ok (.iload 15, 2) := by decide +kernel
theorem dL_law_343 : decode cL_law 343 = .ok (.iaload, 1) := by decide +kernel
theorem dL_law_344 : decode cL_law 344 = .ok (.ifCond .lt 12, 3) := by decide +kernel
theorem dL_law_347 : decode cL_law 347 = .ok (.aload 13, 2) := by decide +kernel
theorem dL_law_349 : decode cL_law 349 = .ok (.iload 15, 2) := by decide +kernel
theorem dL_law_351 : decode cL_law 351 = .ok (.iaload, 1) := by decide +kernel
theorem dL_law_352 : decode cL_law 352 = .ok (.iconst 3, 1) := by decide +kernel
theorem dL_law_353 : decode cL_law 353 = .ok (.if_icmp .le 5, 3) := by decide +kernel
theorem dL_law_356 : decode cL_law 356 = .ok (.iconst 0, 1) := by decide +kernel
theorem dL_law_357 : decode cL_law 357 = .ok (.ireturn, 1) := by decide +kernel
theorem dL_law_358 : decode cL_law 358 = .ok (.iinc 15 1, 3) := by decide +kernel
theorem dL_law_361 : decode cL_law 361 = .ok (.goto (-119), 3) := by decide +kernel
theorem dL_law_364 : decode cL_law 364 = .ok (.iconst 0, 1) := by decide +kernel
theorem dL_law_365 : decode cL_law 365 = .ok (.istore 15, 2) := by decide +kernel
theorem dL_law_367 : decode cL_law 367 = .ok (.iload 15, 2) := by decide +kernel
theorem dL_law_369 : decode cL_law 369 = .ok (.iload 5, 2) := by decide +kernel
theorem dL_law_371 : decode cL_law 371 = .ok (.if_icmp .ge 20, 3) := by decide +kernel
theorem dL_law_374 : decode cL_law 374 = .ok (.iload 10, 2) := by decide +kernel
theorem dL_law_376 : decode cL_law 376 = .ok (.aload_n 1, 1) := by decide +kernel
theorem dL_law_377 : decode cL_law 377 = .ok (.iload 15, 2) := by decide +kernel
theorem dL_law_379 : decode cL_law 379 = .ok (.invokevirtual 104, 3) := by decide +kernel
theorem dL_law_382 : decode cL_law 382 = .ok (.isub, 1) := by decide +kernel
theorem dL_law_383 : decode cL_law 383 = .ok (.istore 10, 2) := by decide +kernel
theorem dL_law_385 : decode cL_law 385 = .ok (.iinc 15 1, 3) := by decide +kernel
theorem dL_law_388 : decode cL_law 388 = .ok (.goto (-21), 3) := by decide +kernel
theorem dL_law_391 : decode cL_law 391 = .ok (.iconst 0, 1) := by decide +kernel
theorem dL_law_392 : decode cL_law 392 = .ok (.istore 15, 2) := by decide +kernel
theorem dL_law_394 : decode cL_law 394 = .ok (.iload 7, 2) := by decide +kernel
theorem dL_law_396 : decode cL_law 396 = .ok (.newarray .int, 2) := by decide +kernel
theorem dL_law_398 : decode cL_law 398 = .ok (.astore 16, 2) := by decide +kernel
theorem dL_law_400 : decode cL_law 400 = .ok (.iload 7, 2) := by decide +kernel
theorem dL_law_402 : decode cL_law 402 = .ok (.newarray .int, 2) := by decide +kernel
theorem dL_law_404 : decode cL_law 404 = .ok (.astore 17, 2) := by decide +kernel
theorem dL_law_406 : decode cL_law 406 = .ok (.iload 7, 2) := by decide +kernel
theorem dL_law_408 : decode cL_law 408 = .ok (.newarray .int, 2) := by decide +kernel
theorem dL_law_410 : decode cL_law 410 = .ok (.astore 18, 2) := by decide +kernel
theorem dL_law_412 : decode cL_law 412 = .ok (.iload 7, 2) := by decide +kernel
theorem dL_law_414 : decode cL_law 414 = .ok (.newarray .int, 2) := by decide +kernel
theorem dL_law_416 : decode cL_law 416 = .ok (.astore 19, 2) := by decide +kernel
theorem dL_law_418 : decode cL_law 418 = .ok (.iconst 0, 1) := by decide +kernel
theorem dL_law_419 : decode cL_law 419 = .ok (.istore 20, 2) := by decide +kernel
theorem dL_law_421 : decode cL_law 421 = .ok (.iload 20, 2) := by decide +kernel
theorem dL_law_423 : decode cL_law 423 = .ok (.iload 7, 2) := by decide +kernel
theorem dL_law_425 : decode cL_law 425 = .ok (.if_icmp .ge 331, 3) := by decide +kernel
theorem dL_law_428 : decode cL_law 428 = .ok (.aload 16, 2) := by decide +kernel
theorem dL_law_430 : decode cL_law 430 = .ok (.iload 20, 2) := by decide +kernel
theorem dL_law_432 : decode cL_law 432 = .ok (.aload_n 1, 1) := by decide +kernel
theorem dL_law_433 : decode cL_law 433 = .ok (.iload 20, 2) := by decide +kernel
theorem dL_law_435 : decode cL_law 435 = .ok (.invokevirtual 122, 3) := by decide +kernel
theorem dL_law_438 : decode cL_law 438 = .ok (.iastore, 1) := by decide +kernel
theorem dL_law_439 : decode cL_law 439 = .ok (.aload 17, 2) := by decide +kernel
theorem dL_law_441 : decode cL_law 441 = .ok (.iload 20, 2) := by decide +kernel
theorem dL_law_443 : decode cL_law 443 = .ok (.aload_n 1, 1) := by decide +kernel
theorem dL_law_444 : decode cL_law 444 = .ok (.iload 20, 2) := by decide +kernel
theorem dL_law_446 : decode cL_law 446 = .ok (.invokevirtual 125, 3) := by decide +kernel
theorem dL_law_449 : decode cL_law 449 = .ok (.iastore, 1) := by decide +kernel
theorem dL_law_450 : decode cL_law 450 = .ok (.aload 18, 2) := by decide +kernel
theorem dL_law_452 : decode cL_law 452 = .ok (.iload 20, 2) := by decide +kernel
theorem dL_law_454 : decode cL_law 454 = .ok (.aload_n 1, 1) := by decide +kernel
theorem dL_law_455 : decode cL_law 455 = .ok (.iload 20, 2) := by decide +kernel
theorem dL_law_457 : decode cL_law 457 = .ok (.invokevirtual 128, 3) := by decide +kernel
theorem dL_law_460 : decode cL_law 460 = .ok (.iastore, 1) := by decide +kernel
theorem dL_law_461 : decode cL_law 461 = .ok (.aload 19, 2) := by decide +kernel
theorem dL_law_463 : decode cL_law 463 = .ok (.iload 20, 2) := by decide +kernel
theorem dL_law_465 : decode cL_law 465 = .ok (.aload_n 1, 1) := by decide +kernel
theorem dL_law_466 : decode cL_law 466 = .ok (.iload 20, 2) := by decide +kernel
theorem dL_law_468 : decode cL_law 468 = .ok (.invokevirtual 131, 3) := by decide +kernel
theorem dL_law_471 : decode cL_law 471 = .ok (.iastore, 1) := by decide +kernel
theorem dL_law_472 : decode cL_law 472 = .ok (.aload_n 1, 1) := by decide +kernel
theorem dL_law_473 : decode cL_law 473 = .ok (.iload 20, 2) := by decide +kernel
theorem dL_law_475 : decode cL_law 475 = .ok (.invokevirtual 134, 3) := by decide +kernel
theorem dL_law_478 : decode cL_law 478 = .ok (.istore 21, 2) := by decide +kernel
theorem dL_law_480 : decode cL_law 480 = .ok (.aload_n 1, 1) := by decide +kernel
theorem dL_law_481 : decode cL_law 481 = .ok (.iload 20, 2) := by decide +kernel
theorem dL_law_483 : decode cL_law 483 = .ok (.invokevirtual 137, 3) := by decide +kernel
theorem dL_law_486 : decode cL_law 486 = .ok (.istore 22, 2) := by decide +kernel
theorem dL_law_488 : decode cL_law 488 = .ok (.iload 15, 2) := by decide +kernel
theorem dL_law_490 : decode cL_law 490 = .ok (.aload 16, 2) := by decide +kernel
theorem dL_law_492 : decode cL_law 492 = .ok (.iload 20, 2) := by decide +kernel
theorem dL_law_494 : decode cL_law 494 = .ok (.iaload, 1) := by decide +kernel
theorem dL_law_495 : decode cL_law 495 = .ok (.iload 5, 2) := by decide +kernel
theorem dL_law_497 : decode cL_law 497 = .ok (.if_icmp .ne 7, 3) := by decide +kernel
theorem dL_law_500 : decode cL_law 500 = .ok (.iconst 1, 1) := by decide +kernel
theorem dL_law_501 : decode cL_law 501 = .ok (.goto 4, 3) := by decide +kernel
theorem dL_law_504 : decode cL_law 504 = .ok (.iconst 0, 1) := by decide +kernel
theorem dL_law_505 : decode cL_law 505 = .ok (.iadd, 1) := by decide +kernel
theorem dL_law_506 : decode cL_law 506 = .ok (.istore 15, 2) := by decide +kernel
theorem dL_law_508 : decode cL_law 508 = .ok (.aload 16, 2) := by decide +kernel
theorem dL_law_510 : decode cL_law 510 = .ok (.iload 20, 2) := by decide +kernel
theorem dL_law_512 : decode cL_law 512 = .ok (.iaload, 1) := by decide +kernel
theorem dL_law_513 : decode cL_law 513 = .ok (.ifCond .lt 235, 3) := by decide +kernel
theorem dL_law_516 : decode cL_law 516 = .ok (.aload 16, 2) := by decide +kernel
theorem dL_law_518 : decode cL_law 518 = .ok (.iload 20, 2) := by decide +kernel
theorem dL_law_520 : decode cL_law 520 = .ok (.iaload, 1) := by decide +kernel
theorem dL_law_521 : decode cL_law 521 = .ok (.iload 5, 2) := by decide +kernel
theorem dL_law_523 : decode cL_law 523 = .ok (.if_icmp .gt 225, 3) := by decide +kernel
theorem dL_law_526 : decode cL_law 526 = .ok (.aload 17, 2) := by decide +kernel
theorem dL_law_528 : decode cL_law 528 = .ok (.iload 20, 2) := by decide +kernel
theorem dL_law_530 : decode cL_law 530 = .ok (.iaload, 1) := by decide +kernel
theorem dL_law_531 : decode cL_law 531 = .ok (.ifCond .lt 217, 3) := by decide +kernel
theorem dL_law_534 : decode cL_law 534 = .ok (.aload 17, 2) := by decide +kernel
theorem dL_law_536 : decode cL_law 536 = .ok (.iload 20, 2) := by decide +kernel
theorem dL_law_538 : decode cL_law 538 = .ok (.iaload, 1) := by decide +kernel
theorem dL_law_539 : decode cL_law 539 = .ok (.bipush 20, 2) := by decide +kernel
theorem dL_law_541 : decode cL_law 541 = .ok (.if_icmp .gt 207, 3) := by decide +kernel
theorem dL_law_544 : decode cL_law 544 = .ok (.aload 18, 2) := by decide +kernel
theorem dL_law_546 : decode cL_law 546 = .ok (.iload 20, 2) := by decide +kernel
theorem dL_law_548 : decode cL_law 548 = .ok (.iaload, 1) := by decide +kernel
theorem dL_law_549 : decode cL_law 549 = .ok (.ifCond .lt 199, 3) := by decide +kernel
theorem dL_law_552 : decode cL_law 552 = .ok (.aload 18, 2) := by decide +kernel
theorem dL_law_554 : decode cL_law 554 = .ok (.iload 20, 2) := by decide +kernel
theorem dL_law_556 : decode cL_law 556 = .ok (.iaload, 1) := by decide +kernel
theorem dL_law_557 : decode cL_law 557 = .ok (.bipush 20, 2) := by decide +kernel
theorem dL_law_559 : decode cL_law 559 = .ok (.if_icmp .gt 189, 3) := by decide +kernel
theorem dL_law_562 : decode cL_law 562 = .ok (.aload 19, 2) := by decide +kernel
theorem dL_law_564 : decode cL_law 564 = .ok (.iload 20, 2) := by decide +kernel
theorem dL_law_566 : decode cL_law 566 = .ok (.iaload, 1) := by decide +kernel
theorem dL_law_567 : decode cL_law 567 = .ok (.ifCond .lt 181, 3) := by decide +kernel
theorem dL_law_570 : decode cL_law 570 = .ok (.aload 19, 2) := by decide +kernel
theorem dL_law_572 : decode cL_law 572 = .ok (.iload 20, 2) := by decide +kernel
theorem dL_law_574 : decode cL_law 574 = .ok (.iaload, 1) := by decide +kernel
theorem dL_law_575 : decode cL_law 575 = .ok (.iconst 4, 1) := by decide +kernel
theorem dL_law_576 : decode cL_law 576 = .ok (.if_icmp .gt 172, 3) := by decide +kernel
theorem dL_law_579 : decode cL_law 579 = .ok (.aload_n 1, 1) := by decide +kernel
theorem dL_law_580 : decode cL_law 580 = .ok (.iload 20, 2) := by decide +kernel
theorem dL_law_582 : decode cL_law 582 = .ok (.invokevirtual 140, 3) := by decide +kernel
theorem dL_law_585 : decode cL_law 585 = .ok (.aload 16, 2) := by decide +kernel
theorem dL_law_587 : decode cL_law 587 = .ok (.iload 20, 2) := by decide +kernel
theorem dL_law_589 : decode cL_law 589 = .ok (.iaload, 1) := by decide +kernel
theorem dL_law_590 : decode cL_law 590 = .ok (.iload 5, 2) := by decide +kernel
