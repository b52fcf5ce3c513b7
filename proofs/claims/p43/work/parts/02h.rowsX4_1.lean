theorem dX4_inFarm_11 : decode cX4_inFarm 11 = .ok (.istore 4, 2) := by decide +kernel
theorem dX4_inFarm_13 : decode cX4_inFarm 13 = .ok (.iload 4, 2) := by decide +kernel
theorem dX4_inFarm_15 : decode cX4_inFarm 15 = .ok (.iload_n 3, 1) := by decide +kernel
theorem dX4_inFarm_16 : decode cX4_inFarm 16 = .ok (.if_icmp .ge 27, 3) := by decide +kernel
theorem dX4_inFarm_19 : decode cX4_inFarm 19 = .ok (.aload_n 2, 1) := by decide +kernel
theorem dX4_inFarm_20 : decode cX4_inFarm 20 = .ok (.iload 4, 2) := by decide +kernel
theorem dX4_inFarm_22 : decode cX4_inFarm 22 = .ok (.aaload, 1) := by decide +kernel
theorem dX4_inFarm_23 : decode cX4_inFarm 23 = .ok (.astore 5, 2) := by decide +kernel
theorem dX4_inFarm_25 : decode cX4_inFarm 25 = .ok (.aload_n 0, 1) := by decide +kernel
theorem dX4_inFarm_26 : decode cX4_inFarm 26 = .ok (.aload 5, 2) := by decide +kernel
theorem dX4_inFarm_28 : decode cX4_inFarm 28 = .ok (.invokevirtual 21, 3) := by decide +kernel
theorem dX4_inFarm_31 : decode cX4_inFarm 31 = .ok (.ifCond .eq 6, 3) := by decide +kernel
theorem dX4_inFarm_34 : decode cX4_inFarm 34 = .ok (.iinc 1 1, 3) := by decide +kernel
theorem dX4_inFarm_37 : decode cX4_inFarm 37 = .ok (.iinc 4 1, 3) := by decide +kernel
theorem dX4_inFarm_40 : decode cX4_inFarm 40 = .ok (.goto (-27), 3) := by decide +kernel
theorem dX4_inFarm_43 : decode cX4_inFarm 43 = .ok (.iload_n 1, 1) := by decide +kernel
theorem dX4_inFarm_44 : decode cX4_inFarm 44 = .ok (.ireturn, 1) := by decide +kernel
set_option maxRecDepth 20000 in
theorem ggX4_behind_X4_inFarm : GoodIn wsX4_behind wsX4_inFarm := goodIn_r _ [5, 6, 7, 8, 9, 4, 10, 11, 36, 37, 38, 39, 40, 41] (by decide +kernel) (by decide +kernel)
set_option maxRecDepth 20000 in
theorem gX4_behind_X4_inFarm : GoodIn wsX4_behind (wsV RX4 51 RX4 yX4_inFarm wsX4_inFarm) := goodIn_app (goodIn_of _ (by decide +kernel)) ggX4_behind_X4_inFarm
set_option maxRecDepth 20000 in
theorem ggX4_behind_X4_pass : GoodIn wsX4_behind wsX4_pass := goodIn_r _ [15, 16, 6, 17, 18, 7, 8, 9, 4, 10, 11, 19, 20, 21, 22, 23, 24, 25, 26, 27, 28, 29, 30, 31, 32, 33, 34, 35, 36, 37, 38, 39, 40, 41] (by decide +kernel) (by decide +kernel)
set_option maxRecDepth 20000 in
theorem gX4_behind_X4_pass : GoodIn wsX4_behind (wsV RX4 55 RX4 yX4_pass wsX4_pass) := goodIn_app (goodIn_of _ (by decide +kernel)) ggX4_behind_X4_pass
theorem dX4_behind_0 : decode cX4_behind 0 = .ok (.aload_n 0, 1) := by decide +kernel
theorem dX4_behind_1 : decode cX4_behind 1 = .ok (.invokevirtual 51, 3) := by decide +kernel
theorem dX4_behind_4 : decode cX4_behind 4 = .ok (.istore_n 2, 1) := by decide +kernel
theorem dX4_behind_5 : decode cX4_behind 5 = .ok (.iconst 0, 1) := by decide +kernel
theorem dX4_behind_6 : decode cX4_behind 6 = .ok (.istore_n 3, 1) := by decide +kernel
theorem dX4_behind_7 : decode cX4_behind 7 = .ok (.iload_n 3, 1) := by decide +kernel
theorem dX4_behind_8 : decode cX4_behind 8 = .ok (.iload_n 1, 1) := by decide +kernel
theorem dX4_behind_9 : decode cX4_behind 9 = .ok (.if_icmp .ge 13, 3) := by decide +kernel
theorem dX4_behind_12 : decode cX4_behind 12 = .ok (.aload_n 0, 1) := by decide +kernel
theorem dX4_behind_13 : decode cX4_behind 13 = .ok (.invokevirtual 55, 3) := by decide +kernel
theorem dX4_behind_16 : decode cX4_behind 16 = .ok (.iinc 3 1, 3) := by decide +kernel
theorem dX4_behind_19 : decode cX4_behind 19 = .ok (.goto (-12), 3) := by decide +kernel
theorem dX4_behind_22 : decode cX4_behind 22 = .ok (.aload_n 0, 1) := by decide +kernel
theorem dX4_behind_23 : decode cX4_behind 23 = .ok (.invokevirtual 51, 3) := by decide +kernel
theorem dX4_behind_26 : decode cX4_behind 26 = .ok (.iload_n 2, 1) := by decide +kernel
theorem dX4_behind_27 : decode cX4_behind 27 = .ok (.isub, 1) := by decide +kernel
theorem dX4_behind_28 : decode cX4_behind 28 = .ok (.ireturn, 1) := by decide +kernel
set_option maxRecDepth 20000 in
theorem ggX4_isSame_X3_beats : GoodIn wsX4_isSame wsX3_beats := goodIn_r _ [11, 12, 13, 246, 247, 248, 249, 250, 251, 252, 253, 254] (by decide +kernel) (by decide +kernel)
set_option maxRecDepth 20000 in
theorem gX4_isSame_X3_beats : GoodIn wsX4_isSame (wsV RX4 67 RX3 yX3_beats wsX3_beats) := goodIn_app (goodIn_of _ (by decide +kernel)) ggX4_isSame_X3_beats
set_option maxRecDepth 20000 in
theorem ggX4_isSame_X3_gates : GoodIn wsX4_isSame wsX3_gates := goodIn_r _ [17, 12, 18, 246, 247, 248, 249, 250, 251, 252, 253, 254] (by decide +kernel) (by decide +kernel)
set_option maxRecDepth 20000 in
theorem gX4_isSame_X3_gates : GoodIn wsX4_isSame (wsV RX4 72 RX3 yX3_gates wsX3_gates) := goodIn_app (goodIn_of _ (by decide +kernel)) ggX4_isSame_X3_gates
set_option maxRecDepth 20000 in
theorem ggX4_isSame_X3_geese : GoodIn wsX4_isSame wsX3_geese := goodIn_r _ [22, 12, 23, 24, 246, 247, 248, 249, 250, 251, 252, 253, 254, 255, 256, 257, 258, 259] (by decide +kernel) (by decide +kernel)
set_option maxRecDepth 20000 in
theorem gX4_isSame_X3_geese : GoodIn wsX4_isSame (wsV RX4 75 RX3 yX3_geese wsX3_geese) := goodIn_app (goodIn_of _ (by decide +kernel)) ggX4_isSame_X3_geese
set_option maxRecDepth 20000 in
theorem ggX4_isSame_X3_visitors : GoodIn wsX4_isSame wsX3_visitors := goodIn_r _ [28, 12, 29, 30, 246, 247, 248, 249, 250, 251, 252, 253, 254, 260, 261, 262, 263, 264, 265] (by decide +kernel) (by decide +kernel)
set_option maxRecDepth 20000 in
theorem gX4_isSame_X3_visitors : GoodIn wsX4_isSame (wsV RX4 77 RX3 yX3_visitors wsX3_visitors) := goodIn_app (goodIn_of _ (by decide +kernel)) ggX4_isSame_X3_visitors
set_option maxRecDepth 20000 in
theorem ggX4_isSame_X3_inFarm : GoodIn wsX4_isSame wsX3_inFarm := goodIn_r _ [34, 12, 35, 36, 37, 38, 39, 40, 41, 42, 43, 44, 45, 46, 47, 246, 247, 248, 249, 250, 251, 252, 253, 254, 260, 261, 262, 263, 264, 265] (by decide +kernel) (by decide +kernel)
set_option maxRecDepth 20000 in
theorem gX4_isSame_X3_inFarm : GoodIn wsX4_isSame (wsV RX4 79 RX3 yX3_inFarm wsX3_inFarm) := goodIn_app (goodIn_of _ (by decide +kernel)) ggX4_isSame_X3_inFarm
set_option maxRecDepth 20000 in
theorem ggX4_isSame_X4_inFarm : GoodIn wsX4_isSame wsX4_inFarm := goodIn_r _ [52, 4, 53, 54, 55, 51, 56, 1, 240, 241, 242, 243, 244, 245] (by decide +kernel) (by decide +kernel)
set_option maxRecDepth 20000 in
theorem gX4_isSame_X4_inFarm : GoodIn wsX4_isSame (wsV RX4 51 RX4 yX4_inFarm wsX4_inFarm) := goodIn_app (goodIn_of _ (by decide +kernel)) ggX4_isSame_X4_inFarm
set_option maxRecDepth 20000 in
theorem ggX4_isSame_X3_bribes : GoodIn wsX4_isSame wsX3_bribes := goodIn_r _ [60, 12, 61, 246, 247, 248, 249, 250, 251, 252, 253, 254] (by decide +kernel) (by decide +kernel)
set_option maxRecDepth 20000 in
theorem gX4_isSame_X3_bribes : GoodIn wsX4_isSame (wsV RX4 80 RX3 yX3_bribes wsX3_bribes) := goodIn_app (goodIn_of _ (by decide +kernel)) ggX4_isSame_X3_bribes
set_option maxRecDepth 20000 in
theorem ggX4_isSame_X3_retreats : GoodIn wsX4_isSame wsX3_retreats := goodIn_r _ [65, 12, 66, 246, 247, 248, 249, 250, 251, 252, 253, 254] (by decide +kernel) (by decide +kernel)
set_option maxRecDepth 20000 in
theorem gX4_isSame_X3_retreats : GoodIn wsX4_isSame (wsV RX4 82 RX3 yX3_retreats wsX3_retreats) := goodIn_app (goodIn_of _ (by decide +kernel)) ggX4_isSame_X3_retreats
set_option maxRecDepth 20000 in
theorem ggX4_isSame_X4_hiss : GoodIn wsX4_isSame wsX4_hiss := goodIn_r _ [70, 3, 1, 240, 241, 242, 243, 244, 245] (by decide +kernel) (by decide +kernel)
set_option maxRecDepth 20000 in
theorem gX4_isSame_X4_hiss : GoodIn wsX4_isSame (wsV RX4 25 RX4 yX4_hiss wsX4_hiss) := goodIn_app (goodIn_of _ (by decide +kernel)) ggX4_isSame_X4_hiss
set_option maxRecDepth 20000 in
theorem ggX4_isSame_X3_rankOf : GoodIn wsX4_isSame wsX3_rankOf := goodIn_ca (goodIn_r _ [74, 12, 75, 76, 77, 78, 38, 79, 47, 80, 81, 10, 82, 83, 84, 246, 247, 248, 249, 250, 251, 252, 253, 254] (by decide +kernel) (by decide +kernel)) (goodIn_sub (fun _ h => List.mem_cons_of_mem _ (List.mem_append_left _ (List.mem_append_right _ h))) (by decide +kernel))
set_option maxRecDepth 20000 in
theorem gX4_isSame_X3_rankOf : GoodIn wsX4_isSame (wsV RX4 84 RX3 yX3_rankOf wsX3_rankOf) := goodIn_app (goodIn_of _ (by decide +kernel)) ggX4_isSame_X3_rankOf
set_option maxRecDepth 20000 in
theorem ggX4_isSame_X3_awakeAt : GoodIn wsX4_isSame wsX3_awakeAt := goodIn_ca (goodIn_r _ [88, 12, 23, 76, 77, 78, 38, 79, 47, 80, 81, 10, 82, 83, 84, 89, 90, 91, 92, 93, 94, 95, 96, 97, 98, 99, 100, 246, 247, 248, 249, 250, 251, 252, 253, 254, 255, 256, 257, 258, 259] (by decide +kernel) (by decide +kernel)) (goodIn_sub (fun _ h => List.mem_cons_of_mem _ (List.mem_append_left _ (List.mem_append_right _ h))) (by decide +kernel))
set_option maxRecDepth 20000 in
theorem gX4_isSame_X3_awakeAt : GoodIn wsX4_isSame (wsV RX4 87 RX3 yX3_awakeAt wsX3_awakeAt) := goodIn_app (goodIn_of _ (by decide +kernel)) ggX4_isSame_X3_awakeAt
set_option maxRecDepth 20000 in
theorem ggX4_isSame_X3_hissOf : GoodIn wsX4_isSame wsX3_hissOf := goodIn_ca (goodIn_ca (goodIn_r _ [104, 12, 76, 77, 78, 38, 79, 47, 80, 81, 10, 82, 83, 84, 105, 106, 107, 108, 109, 110, 111, 112, 113, 114, 115, 116, 117, 118, 119, 120, 121, 122, 123, 124, 125, 126, 127, 128, 129, 130, 131, 132, 133, 92, 134, 94, 135, 95, 96, 97, 98, 99, 100, 246, 247, 248, 249, 250, 251, 252, 253, 254, 255, 256, 257, 258, 259] (by decide +kernel) (by decide +kernel)) (goodIn_sub (fun _ h => List.mem_cons_of_mem _ (List.mem_append_left _ (List.mem_append_right _ h))) (by decide +kernel))) (goodIn_sub (fun _ h => List.mem_cons_of_mem _ (List.mem_append_right _ h)) (by decide +kernel))
set_option maxRecDepth 20000 in
theorem gX4_isSame_X3_hissOf : GoodIn wsX4_isSame (wsV RX4 90 RX3 yX3_hissOf wsX3_hissOf) := goodIn_app (goodIn_of _ (by decide +kernel)) ggX4_isSame_X3_hissOf
set_option maxRecDepth 20000 in
theorem ggX4_isSame_X3_gateOf : GoodIn wsX4_isSame wsX3_gateOf := goodIn_ca (goodIn_r _ [139, 12, 23, 140, 141, 142, 143, 10, 144, 145, 146, 147, 92, 148, 94, 80, 81, 82, 83, 84, 246, 247, 248, 249, 250, 251, 252, 253, 254, 255, 256, 257, 258, 259] (by decide +kernel) (by decide +kernel)) (goodIn_sub (fun _ h => List.mem_cons_of_mem _ (List.mem_append_left _ (List.mem_append_right _ h))) (by decide +kernel))
set_option maxRecDepth 20000 in
theorem gX4_isSame_X3_gateOf : GoodIn wsX4_isSame (wsV RX4 93 RX3 yX3_gateOf wsX3_gateOf) := goodIn_app (goodIn_of _ (by decide +kernel)) ggX4_isSame_X3_gateOf
set_option maxRecDepth 20000 in
theorem ggX4_isSame_X3_temperOf : GoodIn wsX4_isSame wsX3_temperOf := goodIn_ca (goodIn_r _ [152, 12, 23, 153, 141, 142, 143, 10, 144, 145, 146, 147, 92, 148, 94, 80, 81, 82, 83, 84, 246, 247, 248, 249, 250, 251, 252, 253, 254, 255, 256, 257, 258, 259] (by decide +kernel) (by decide +kernel)) (goodIn_sub (fun _ h => List.mem_cons_of_mem _ (List.mem_append_left _ (List.mem_append_right _ h))) (by decide +kernel))
set_option maxRecDepth 20000 in
theorem gX4_isSame_X3_temperOf : GoodIn wsX4_isSame (wsV RX4 96 RX3 yX3_temperOf wsX3_temperOf) := goodIn_app (goodIn_of _ (by decide +kernel)) ggX4_isSame_X3_temperOf
set_option maxRecDepth 20000 in
theorem ggX4_isSame_X3_calmFor : GoodIn wsX4_isSame wsX3_calmFor := goodIn_ca (goodIn_r _ [157, 12, 23, 158, 141, 142, 143, 10, 144, 145, 146, 147, 92, 148, 94, 80, 81, 82, 83, 84, 246, 247, 248, 249, 250, 251, 252, 253, 254, 255, 256, 257, 258, 259] (by decide +kernel) (by decide +kernel)) (goodIn_sub (fun _ h => List.mem_cons_of_mem _ (List.mem_append_left _ (List.mem_append_right _ h))) (by decide +kernel))
set_option maxRecDepth 20000 in
theorem gX4_isSame_X3_calmFor : GoodIn wsX4_isSame (wsV RX4 99 RX3 yX3_calmFor wsX3_calmFor) := goodIn_app (goodIn_of _ (by decide +kernel)) ggX4_isSame_X3_calmFor
set_option maxRecDepth 20000 in
theorem ggX4_isSame_X3_eatenBy : GoodIn wsX4_isSame wsX3_eatenBy := goodIn_ca (goodIn_r _ [162, 12, 23, 163, 141, 142, 143, 10, 144, 145, 146, 147, 92, 148, 94, 80, 81, 82, 83, 84, 246, 247, 248, 249, 250, 251, 252, 253, 254, 255, 256, 257, 258, 259] (by decide +kernel) (by decide +kernel)) (goodIn_sub (fun _ h => List.mem_cons_of_mem _ (List.mem_append_left _ (List.mem_append_right _ h))) (by decide +kernel))
set_option maxRecDepth 20000 in
theorem gX4_isSame_X3_eatenBy : GoodIn wsX4_isSame (wsV RX4 102 RX3 yX3_eatenBy wsX3_eatenBy) := goodIn_app (goodIn_of _ (by decide +kernel)) ggX4_isSame_X3_eatenBy
set_option maxRecDepth 20000 in
theorem ggX4_isSame_X4_hissAt : GoodIn wsX4_isSame wsX4_hissAt := goodIn_r _ [167, 53, 54, 55, 51, 56, 1, 67, 68, 69, 70, 3, 240, 241, 242, 243, 244, 245] (by decide +kernel) (by decide +kernel)
set_option maxRecDepth 20000 in
theorem gX4_isSame_X4_hissAt : GoodIn wsX4_isSame (wsV RX4 33 RX4 yX4_hissAt wsX4_hissAt) := goodIn_app (goodIn_of _ (by decide +kernel)) ggX4_isSame_X4_hissAt
set_option maxRecDepth 20000 in
theorem ggX4_isSame_X3_passedBy : GoodIn wsX4_isSame wsX3_passedBy := goodIn_ca (goodIn_r _ [171, 12, 29, 172, 173, 174, 175, 10, 176, 177, 178, 179, 180, 181, 182, 80, 81, 82, 83, 84, 246, 247, 248, 249, 250, 251, 252, 253, 254, 260, 261, 262, 263, 264, 265] (by decide +kernel) (by decide +kernel)) (goodIn_sub (fun _ h => List.mem_cons_of_mem _ (List.mem_append_left _ (List.mem_append_right _ h))) (by decide +kernel))
set_option maxRecDepth 20000 in
theorem gX4_isSame_X3_passedBy : GoodIn wsX4_isSame (wsV RX4 105 RX3 yX3_passedBy wsX3_passedBy) := goodIn_app (goodIn_of _ (by decide +kernel)) ggX4_isSame_X3_passedBy
set_option maxRecDepth 20000 in
theorem ggX4_isSame_X3_isInFarm : GoodIn wsX4_isSame wsX3_isInFarm := goodIn_ca (goodIn_r _ [186, 12, 173, 174, 175, 10, 176, 29, 177, 178, 179, 180, 181, 182, 80, 81, 82, 83, 84, 187, 43, 44, 38, 45, 40, 46, 47, 246, 247, 248, 249, 250, 251, 252, 253, 254, 260, 261, 262, 263, 264, 265] (by decide +kernel) (by decide +kernel)) (goodIn_sub (fun _ h => List.mem_cons_of_mem _ (List.mem_append_left _ (List.mem_append_right _ h))) (by decide +kernel))
set_option maxRecDepth 20000 in
theorem gX4_isSame_X3_isInFarm : GoodIn wsX4_isSame (wsV RX4 108 RX3 yX3_isInFarm wsX3_isInFarm) := goodIn_app (goodIn_of _ (by decide +kernel)) ggX4_isSame_X3_isInFarm
set_option maxRecDepth 20000 in
theorem ggX4_isSame_X4_isIn : GoodIn wsX4_isSame wsX4_isIn := goodIn_r _ [56, 1, 240, 241, 242, 243, 244, 245] (by decide +kernel) (by decide +kernel)
set_option maxRecDepth 20000 in
theorem gX4_isSame_X4_isIn : GoodIn wsX4_isSame (wsV RX4 21 RX4 yX4_isIn wsX4_isIn) := goodIn_app (goodIn_of _ (by decide +kernel)) ggX4_isSame_X4_isIn
set_option maxRecDepth 20000 in
theorem ggX4_isSame_X3_cornsOf : GoodIn wsX4_isSame wsX3_cornsOf := goodIn_ca (goodIn_r _ [191, 12, 29, 192, 173, 174, 175, 10, 176, 177, 178, 179, 180, 181, 182, 80, 81, 82, 83, 84, 246, 247, 248, 249, 250, 251, 252, 253, 254, 260, 261, 262, 263, 264, 265] (by decide +kernel) (by decide +kernel)) (goodIn_sub (fun _ h => List.mem_cons_of_mem _ (List.mem_append_left _ (List.mem_append_right _ h))) (by decide +kernel))
set_option maxRecDepth 20000 in
theorem gX4_isSame_X3_cornsOf : GoodIn wsX4_isSame (wsV RX4 112 RX3 yX3_cornsOf wsX3_cornsOf) := goodIn_app (goodIn_of _ (by decide +kernel)) ggX4_isSame_X3_cornsOf
set_option maxRecDepth 20000 in
theorem ggX4_isSame_X3_nerveOf : GoodIn wsX4_isSame wsX3_nerveOf := goodIn_ca (goodIn_r _ [196, 12, 29, 197, 173, 174, 175, 10, 176, 177, 178, 179, 180, 181, 182, 80, 81, 82, 83, 84, 246, 247, 248, 249, 250, 251, 252, 253, 254, 260, 261, 262, 263, 264, 265] (by decide +kernel) (by decide +kernel)) (goodIn_sub (fun _ h => List.mem_cons_of_mem _ (List.mem_append_left _ (List.mem_append_right _ h))) (by decide +kernel))
set_option maxRecDepth 20000 in
theorem gX4_isSame_X3_nerveOf : GoodIn wsX4_isSame (wsV RX4 115 RX3 yX3_nerveOf wsX3_nerveOf) := goodIn_app (goodIn_of _ (by decide +kernel)) ggX4_isSame_X3_nerveOf
set_option maxRecDepth 20000 in
theorem ggX4_isSame_X3_retreatOf : GoodIn wsX4_isSame wsX3_retreatOf := goodIn_ca (goodIn_r _ [201, 12, 29, 202, 173, 174, 175, 10, 176, 177, 178, 179, 180, 181, 182, 80, 81, 82, 83, 84, 246, 247, 248, 249, 250, 251, 252, 253, 254, 260, 261, 262, 263, 264, 265] (by decide +kernel) (by decide +kernel)) (goodIn_sub (fun _ h => List.mem_cons_of_mem _ (List.mem_append_left _ (List.mem_append_right _ h))) (by decide +kernel))
set_option maxRecDepth 20000 in
theorem gX4_isSame_X3_retreatOf : GoodIn wsX4_isSame (wsV RX4 118 RX3 yX3_retreatOf wsX3_retreatOf) := goodIn_app (goodIn_of _ (by decide +kernel)) ggX4_isSame_X3_retreatOf
set_option maxRecDepth 20000 in
theorem ggX4_isSame_X3_hissAt : GoodIn wsX4_isSame wsX3_hissAt := goodIn_ca (goodIn_r _ [206, 12, 173, 174, 175, 10, 176, 29, 177, 178, 179, 180, 181, 182, 80, 81, 82, 83, 84, 207, 208, 209, 38, 210, 40, 46, 211, 212, 117, 118, 119, 120, 121, 122, 123, 124, 125, 126, 127, 128, 129, 130, 77, 78, 79, 47, 131, 132, 133, 92, 134, 94, 135, 95, 96, 97, 98, 99, 100, 246, 247, 248, 249, 250, 251, 252, 253, 254, 260, 261, 262, 263, 264, 265, 255, 256, 257, 258, 259] (by decide +kernel) (by decide +kernel)) (goodIn_sub (fun _ h => List.mem_cons_of_mem _ (List.mem_append_left _ (List.mem_append_right _ h))) (by decide +kernel))
set_option maxRecDepth 20000 in
theorem gX4_isSame_X3_hissAt : GoodIn wsX4_isSame (wsV RX4 121 RX3 yX3_hissAt wsX3_hissAt) := goodIn_app (goodIn_of _ (by decide +kernel)) ggX4_isSame_X3_hissAt
set_option maxRecDepth 20000 in
theorem ggX4_isSame_X3_gradeFor : GoodIn wsX4_isSame wsX3_gradeFor := goodIn_ca (goodIn_r _ [216, 12, 173, 174, 175, 10, 176, 29, 177, 178, 179, 180, 181, 182, 80, 81, 82, 83, 84, 207, 208, 209, 38, 210, 40, 46, 211, 212, 117, 118, 119, 120, 121, 122, 123, 124, 125, 126, 127, 128, 129, 130, 77, 78, 79, 47, 131, 132, 133, 92, 134, 94, 135, 95, 96, 97, 98, 99, 100, 217, 218, 219, 246, 247, 248, 249, 250, 251, 252, 253, 254, 260, 261, 262, 263, 264, 265, 255, 256, 257, 258, 259] (by decide +kernel) (by decide +kernel)) (goodIn_sub (fun _ h => List.mem_cons_of_mem _ (List.mem_append_left _ (List.mem_append_right _ h))) (by decide +kernel))
set_option maxRecDepth 20000 in
theorem gX4_isSame_X3_gradeFor : GoodIn wsX4_isSame (wsV RX4 123 RX3 yX3_gradeFor wsX3_gradeFor) := goodIn_app (goodIn_of _ (by decide +kernel)) ggX4_isSame_X3_gradeFor
set_option maxRecDepth 20000 in
theorem ggX4_isSame_X4_grade : GoodIn wsX4_isSame wsX4_grade := goodIn_r _ [222, 223] (by decide +kernel) (by decide +kernel)
set_option maxRecDepth 20000 in
theorem gX4_isSame_X4_grade : GoodIn wsX4_isSame (va_wsS RX4 41 yX4_grade wsX4_grade) := goodIn_app (goodIn_of _ (by decide +kernel)) ggX4_isSame_X4_grade
set_option maxRecDepth 20000 in
theorem ggX4_isSame_X3_dares : GoodIn wsX4_isSame wsX3_dares := goodIn_ca (goodIn_r _ [227, 12, 29, 197, 173, 174, 175, 10, 176, 177, 178, 179, 180, 181, 182, 80, 81, 82, 83, 84, 187, 43, 44, 38, 45, 40, 46, 47, 207, 208, 209, 210, 211, 212, 117, 118, 119, 120, 121, 122, 123, 124, 125, 126, 127, 128, 129, 130, 77, 78, 79, 131, 132, 133, 92, 134, 94, 135, 95, 96, 97, 98, 99, 100, 246, 247, 248, 249, 250, 251, 252, 253, 254, 260, 261, 262, 263, 264, 265, 255, 256, 257, 258, 259] (by decide +kernel) (by decide +kernel)) (goodIn_sub (fun _ h => List.mem_cons_of_mem _ (List.mem_append_left _ (List.mem_append_right _ h))) (by decide +kernel))
set_option maxRecDepth 20000 in
theorem gX4_isSame_X3_dares : GoodIn wsX4_isSame (wsV RX4 126 RX3 yX3_dares wsX3_dares) := goodIn_app (goodIn_of _ (by decide +kernel)) ggX4_isSame_X3_dares
set_option maxRecDepth 20000 in
theorem ggX4_isSame_X3_loudestGate : GoodIn wsX4_isSame wsX3_loudestGate := goodIn_r _ [231, 12, 18, 116, 117, 118, 38, 119, 120, 121, 122, 123, 124, 125, 126, 127, 128, 129, 130, 77, 78, 79, 47, 131, 132, 133, 92, 134, 94, 135, 95, 96, 97, 98, 99, 100, 246, 247, 248, 249, 250, 251, 252, 253, 254, 255, 256, 257, 258, 259] (by decide +kernel) (by decide +kernel)
set_option maxRecDepth 20000 in
theorem gX4_isSame_X3_loudestGate : GoodIn wsX4_isSame (wsV RX4 129 RX3 yX3_loudestGate wsX3_loudestGate) := goodIn_app (goodIn_of _ (by decide +kernel)) ggX4_isSame_X3_loudestGate
set_option maxRecDepth 20000 in
theorem ggX4_isSame_X3_meanTemper : GoodIn wsX4_isSame wsX3_meanTemper := goodIn_r _ [235, 12, 23, 24, 236, 237, 238, 92, 239, 94, 135, 246, 247, 248, 249, 250, 251, 252, 253, 254, 255, 256, 257, 258, 259] (by decide +kernel) (by decide +kernel)
set_option maxRecDepth 20000 in
theorem gX4_isSame_X3_meanTemper : GoodIn wsX4_isSame (wsV RX4 132 RX3 yX3_meanTemper wsX3_meanTemper) := goodIn_app (goodIn_of _ (by decide +kernel)) ggX4_isSame_X3_meanTemper
theorem dX4_isSame_0 : decode cX4_isSame 0 = .ok (.aload_n 0, 1) := by decide +kernel
theorem dX4_isSame_1 : decode cX4_isSame 1 = .ok (.getfield 7, 3) := by decide +kernel
theorem dX4_isSame_4 : decode cX4_isSame 4 = .ok (.arraylength, 1) := by decide +kernel
theorem dX4_isSame_5 : decode cX4_isSame 5 = .ok (.istore_n 2, 1) := by decide +kernel
theorem dX4_isSame_6 : decode cX4_isSame 6 = .ok (.aload_n 1, 1) := by decide +kernel
theorem dX4_isSame_7 : decode cX4_isSame 7 = .ok (.invokevirtual 67, 3) := by decide +kernel
theorem dX4_isSame_10 : decode cX4_isSame 10 = .ok (.aload_n 0, 1) := by decide +kernel
theorem dX4_isSame_11 : decode cX4_isSame 11 = .ok (.getfield 48, 3) := by decide +kernel
theorem dX4_isSame_14 : decode cX4_isSame 14 = .ok (.if_icmp .ne 68, 3) := by decide +kernel
theorem dX4_isSame_17 : decode cX4_isSame 17 = .ok (.aload_n 1, 1) := by decide +kernel
theorem dX4_isSame_18 : decode cX4_isSame 18 = .ok (.invokevirtual 72, 3) := by decide +kernel
theorem dX4_isSame_21 : decode cX4_isSame 21 = .ok (.iload_n 2, 1) := by decide +kernel
theorem dX4_isSame_22 : decode cX4_isSame 22 = .ok (.if_icmp .ne 60, 3) := by decide +kernel
theorem dX4_isSame_25 : decode cX4_isSame 25 = .ok (.aload_n 1, 1) := by decide +kernel
theorem dX4_isSame_26 : decode cX4_isSame 26 = .ok (.invokevirtual 75, 3) := by decide +kernel
theorem dX4_isSame_29 : decode cX4_isSame 29 = .ok (.aload_n 0, 1) := by decide +kernel
theorem dX4_isSame_30 : decode cX4_isSame 30 = .ok (.getfield 14, 3) := by decide +kernel
theorem dX4_isSame_33 : decode cX4_isSame 33 = .ok (.arraylength, 1) := by decide +kernel
theorem dX4_isSame_34 : decode cX4_isSame 34 = .ok (.if_icmp .ne 48, 3) := by decide +kernel
theorem dX4_isSame_37 : decode cX4_isSame 37 = .ok (.aload_n 1, 1) := by decide +kernel
theorem dX4_isSame_38 : decode cX4_isSame 38 = .ok (.invokevirtual 77, 3) := by decide +kernel
theorem dX4_isSame_41 : decode cX4_isSame 41 = .ok (.aload_n 0, 1) := by decide +kernel
theorem dX4_isSame_42 : decode cX4_isSame 42 = .ok (.getfield 18, 3) := by decide +kernel
theorem dX4_isSame_45 : decode cX4_isSame 45 = .ok (.arraylength, 1) := by decide +kernel
theorem dX4_isSame_46 : decode cX4_isSame 46 = .ok (.if_icmp .ne 36, 3) := by decide +kernel
theorem dX4_isSame_49 : decode cX4_isSame 49 = .ok (.aload_n 1, 1) := by decide +kernel
theorem dX4_isSame_50 : decode cX4_isSame 50 = .ok (.invokevirtual 79, 3) := by decide +kernel
theorem dX4_isSame_53 : decode cX4_isSame 53 = .ok (.aload_n 0, 1) := by decide +kernel
theorem dX4_isSame_54 : decode cX4_isSame 54 = .ok (.invokevirtual 51, 3) := by decide +kernel
theorem dX4_isSame_57 : decode cX4_isSame 57 = .ok (.if_icmp .ne 25, 3) := by decide +kernel
theorem dX4_isSame_60 : decode cX4_isSame 60 = .ok (.aload_n 1, 1) := by decide +kernel
theorem dX4_isSame_61 : decode cX4_isSame 61 = .ok (.invokevirtual 80, 3) := by decide +kernel
theorem dX4_isSame_64 : decode cX4_isSame 64 = .ok (.aload_n 0, 1) := by decide +kernel
theorem dX4_isSame_65 : decode cX4_isSame 65 = .ok (.getfield 29, 3) := by decide +kernel
theorem dX4_isSame_68 : decode cX4_isSame 68 = .ok (.if_icmp .ne 14, 3) := by decide +kernel
theorem dX4_isSame_71 : decode cX4_isSame 71 = .ok (.aload_n 1, 1) := by decide +kernel
theorem dX4_isSame_72 : decode cX4_isSame 72 = .ok (.invokevirtual 82, 3) := by decide +kernel
theorem dX4_isSame_75 : decode cX4_isSame 75 = .ok (.aload_n 0, 1) := by decide +kernel
theorem dX4_isSame_76 : decode cX4_isSame 76 = .ok (.getfield 45, 3) := by decide +kernel
theorem dX4_isSame_79 : decode cX4_isSame 79 = .ok (.if_icmp .eq 5, 3) := by decide +kernel
theorem dX4_isSame_82 : decode cX4_isSame 82 = .ok (.iconst 0, 1) := by decide +kernel
theorem dX4_isSame_83 : decode cX4_isSame 83 = .ok (.ireturn, 1) := by decide +kernel
theorem dX4_isSame_84 : decode cX4_isSame 84 = .ok (.iconst (-1), 1) := by decide +kernel
theorem dX4_isSame_85 : decode cX4_isSame 85 = .ok (.istore_n 3, 1) := by decide +kernel
theorem dX4_isSame_86 : decode cX4_isSame 86 = .ok (.iconst 0, 1) := by decide +kernel
theorem dX4_isSame_87 : decode cX4_isSame 87 = .ok (.istore 4, 2) := by decide +kernel
theorem dX4_isSame_89 : decode cX4_isSame 89 = .ok (.iload 4, 2) := by decide +kernel
theorem dX4_isSame_91 : decode cX4_isSame 91 = .ok (.iload_n 2, 1) := by decide +kernel
theorem dX4_isSame_92 : decode cX4_isSame 92 = .ok (.if_icmp .ge 146, 3) := by decide +kernel
theorem dX4_isSame_95 : decode cX4_isSame 95 = .ok (.iconst 0, 1) := by decide +kernel
theorem dX4_isSame_96 : decode cX4_isSame 96 = .ok (.istore 5, 2) := by decide +kernel
theorem dX4_isSame_98 : decode cX4_isSame 98 = .ok (.aload_n 0, 1) := by decide +kernel
theorem dX4_isSame_99 : decode cX4_isSame 99 = .ok (.getfield 14, 3) := by decide +kernel
theorem dX4_isSame_102 : decode cX4_isSame 102 = .ok (.astore 6, 2) := by decide +kernel
theorem dX4_isSame_104 : decode cX4_isSame 104 = .ok (.aload 6, 2) := by decide +kernel
theorem dX4_isSame_106 : decode cX4_isSame 106 = .ok (.arraylength, 1) := by decide +kernel
theorem dX4_isSame_107 : decode cX4_isSame 107 = .ok (.istore 7, 2) := by decide +kernel
theorem dX4_isSame_109 : decode cX4_isSame 109 = .ok (.iconst 0, 1) := by decide +kernel
theorem dX4_isSame_110 : decode cX4_isSame 110 = .ok (.istore 8, 2) := by decide +kernel
theorem dX4_isSame_112 : decode cX4_isSame 112 = .ok (.iload 8, 2) := by decide +kernel
theorem dX4_isSame_114 : decode cX4_isSame 114 = .ok (.iload 7, 2) := by decide +kernel
theorem dX4_isSame_116 : decode cX4_isSame 116 = .ok (.if_icmp .ge 35, 3) := by decide +kernel
theorem dX4_isSame_119 : decode cX4_isSame 119 = .ok (.aload 6, 2) := by decide +kernel
theorem dX4_isSame_121 : decode cX4_isSame 121 = .ok (.iload 8, 2) := by decide +kernel
theorem dX4_isSame_123 : decode cX4_isSame 123 = .ok (.aaload, 1) := by decide +kernel
theorem dX4_isSame_124 : decode cX4_isSame 124 = .ok (.astore 9, 2) := by decide +kernel
theorem dX4_isSame_126 : decode cX4_isSame 126 = .ok (.aload 9, 2) := by decide +kernel
theorem dX4_isSame_128 : decode cX4_isSame 128 = .ok (.iconst 0, 1) := by decide +kernel
theorem dX4_isSame_129 : decode cX4_isSame 129 = .ok (.iaload, 1) := by decide +kernel
theorem dX4_isSame_130 : decode cX4_isSame 130 = .ok (.iload 4, 2) := by decide +kernel
theorem dX4_isSame_132 : decode cX4_isSame 132 = .ok (.if_icmp .ne 13, 3) := by decide +kernel
theorem dX4_isSame_135 : decode cX4_isSame 135 = .ok (.aload 9, 2) := by decide +kernel
theorem dX4_isSame_137 : decode cX4_isSame 137 = .ok (.iconst 2, 1) := by decide +kernel
theorem dX4_isSame_138 : decode cX4_isSame 138 = .ok (.iaload, 1) := by decide +kernel
theorem dX4_isSame_139 : decode cX4_isSame 139 = .ok (.ifCond .ne 6, 3) := by decide +kernel
theorem dX4_isSame_142 : decode cX4_isSame 142 = .ok (.iinc 5 1, 3) := by decide +kernel
theorem dX4_isSame_145 : decode cX4_isSame 145 = .ok (.iinc 8 1, 3) := by decide +kernel
theorem dX4_isSame_148 : decode cX4_isSame 148 = .ok (.goto (-36), 3) := by decide +kernel
theorem dX4_isSame_151 : decode cX4_isSame 151 = .ok (.iload_n 3, 1) := by decide +kernel
theorem dX4_isSame_152 : decode cX4_isSame 152 = .ok (.ifCond .lt 19, 3) := by decide +kernel
theorem dX4_isSame_155 : decode cX4_isSame 155 = .ok (.aload_n 0, 1) := by decide +kernel
theorem dX4_isSame_156 : decode cX4_isSame 156 = .ok (.iload 4, 2) := by decide +kernel
theorem dX4_isSame_158 : decode cX4_isSame 158 = .ok (.iconst 0, 1) := by decide +kernel
theorem dX4_isSame_159 : decode cX4_isSame 159 = .ok (.invokevirtual 25, 3) := by decide +kernel
theorem dX4_isSame_162 : decode cX4_isSame 162 = .ok (.aload_n 0, 1) := by decide +kernel
theorem dX4_isSame_163 : decode cX4_isSame 163 = .ok (.iload_n 3, 1) := by decide +kernel
theorem dX4_isSame_164 : decode cX4_isSame 164 = .ok (.iconst 0, 1) := by decide +kernel
theorem dX4_isSame_165 : decode cX4_isSame 165 = .ok (.invokevirtual 25, 3) := by decide +kernel
theorem dX4_isSame_168 : decode cX4_isSame 168 = .ok (.if_icmp .le 6, 3) := by decide +kernel
theorem dX4_isSame_171 : decode cX4_isSame 171 = .ok (.iload 4, 2) := by decide +kernel
theorem dX4_isSame_173 : decode cX4_isSame 173 = .ok (.istore_n 3, 1) := by decide +kernel
theorem dX4_isSame_174 : decode cX4_isSame 174 = .ok (.aload_n 1, 1) := by decide +kernel
theorem dX4_isSame_175 : decode cX4_isSame 175 = .ok (.iload 4, 2) := by decide +kernel
theorem dX4_isSame_177 : decode cX4_isSame 177 = .ok (.invokevirtual 84, 3) := by decide +kernel
theorem dX4_isSame_180 : decode cX4_isSame 180 = .ok (.aload_n 0, 1) := by decide +kernel
theorem dX4_isSame_181 : decode cX4_isSame 181 = .ok (.getfield 7, 3) := by decide +kernel
theorem dX4_isSame_184 : decode cX4_isSame 184 = .ok (.iload 4, 2) := by decide +kernel
theorem dX4_isSame_186 : decode cX4_isSame 186 = .ok (.iaload, 1) := by decide +kernel
theorem dX4_isSame_187 : decode cX4_isSame 187 = .ok (.if_icmp .ne 43, 3) := by decide +kernel
theorem dX4_isSame_190 : decode cX4_isSame 190 = .ok (.aload_n 1, 1) := by decide +kernel
theorem dX4_isSame_191 : decode cX4_isSame 191 = .ok (.iload 4, 2) := by decide +kernel
theorem dX4_isSame_193 : decode cX4_isSame 193 = .ok (.invokevirtual 87, 3) := by decide +kernel
theorem dX4_isSame_196 : decode cX4_isSame 196 = .ok (.iload 5, 2) := by decide +kernel
theorem dX4_isSame_198 : decode cX4_isSame 198 = .ok (.if_icmp .ne 32, 3) := by decide +kernel
theorem dX4_isSame_201 : decode cX4_isSame 201 = .ok (.aload_n 1, 1) := by decide +kernel
theorem dX4_isSame_202 : decode cX4_isSame 202 = .ok (.iload 4, 2) := by decide +kernel
theorem dX4_isSame_204 : decode cX4_isSame 204 = .ok (.aload_n 0, 1) := by decide +kernel
theorem dX4_isSame_205 : decode cX4_isSame 205 = .ok (.getfield 48, 3) := by decide +kernel
theorem dX4_isSame_208 : decode cX4_isSame 208 = .ok (.bipush 10, 2) := by decide +kernel
theorem dX4_isSame_210 : decode cX4_isSame 210 = .ok (.irem, 1) := by decide +kernel
theorem dX4_isSame_211 : decode cX4_isSame 211 = .ok (.invokevirtual 90, 3) := by decide +kernel
theorem dX4_isSame_214 : decode cX4_isSame 214 = .ok (.aload_n 0, 1) := by decide +kernel
theorem dX4_isSame_215 : decode cX4_isSame 215 = .ok (.iload 4, 2) := by decide +kernel
theorem dX4_isSame_217 : decode cX4_isSame 217 = .ok (.aload_n 0, 1) := by decide +kernel
theorem dX4_isSame_218 : decode cX4_isSame 218 = .ok (.getfield 48, 3) := by decide +kernel
theorem dX4_isSame_221 : decode cX4_isSame 221 = .ok (.bipush 10, 2) := by decide +kernel
theorem dX4_isSame_223 : decode cX4_isSame 223 = .ok (.irem, 1) := by decide +kernel
theorem dX4_isSame_224 : decode cX4_isSame 224 = .ok (.invokevirtual 25, 3) := by decide +kernel
theorem dX4_isSame_227 : decode cX4_isSame 227 = .ok (.if_icmp .eq 5, 3) := by decide +kernel
theorem dX4_isSame_230 : decode cX4_isSame 230 = .ok (.iconst 0, 1) := by decide +kernel
theorem dX4_isSame_231 : decode cX4_isSame 231 = .ok (.ireturn, 1) := by decide +kernel
theorem dX4_isSame_232 : decode cX4_isSame 232 = .ok (.iinc 4 1, 3) := by decide +kernel
theorem dX4_isSame_235 : decode cX4_isSame 235 = .ok (.goto (-146), 3) := by decide +kernel
theorem dX4_isSame_238 : decode cX4_isSame 238 = .ok (.iconst 0, 1) := by decide +kernel
theorem dX4_isSame_239 : decode cX4_isSame 239 = .ok (.istore 4, 2) := by decide +kernel
theorem dX4_isSame_241 : decode cX4_isSame 241 = .ok (.iconst 0, 1) := by decide +kernel
theorem dX4_isSame_242 : decode cX4_isSame 242 = .ok (.istore 5, 2) := by decide +kernel
theorem dX4_isSame_244 : decode cX4_isSame 244 = .ok (.iload 5, 2) := by decide +kernel
theorem dX4_isSame_246 : decode cX4_isSame 246 = .ok (.aload_n 0, 1) := by decide +kernel
theorem dX4_isSame_247 : decode cX4_isSame 247 = .ok (.getfield 14, 3) := by decide +kernel
theorem dX4_isSame_250 : decode cX4_isSame 250 = .ok (.arraylength, 1) := by decide +kernel
theorem dX4_isSame_251 : decode cX4_isSame 251 = .ok (.if_icmp .ge 81, 3) := by decide +kernel
theorem dX4_isSame_254 : decode cX4_isSame 254 = .ok (.aload_n 0, 1) := by decide +kernel
theorem dX4_isSame_255 : decode cX4_isSame 255 = .ok (.getfield 14, 3) := by decide +kernel
theorem dX4_isSame_258 : decode cX4_isSame 258 = .ok (.iload 5, 2) := by decide +kernel
theorem dX4_isSame_260 : decode cX4_isSame 260 = .ok (.aaload, 1) := by decide +kernel
theorem dX4_isSame_261 : decode cX4_isSame 261 = .ok (.astore 6, 2) := by decide +kernel
theorem dX4_isSame_263 : decode cX4_isSame 263 = .ok (.iload 4, 2) := by decide +kernel
theorem dX4_isSame_265 : decode cX4_isSame 265 = .ok (.aload 6, 2) := by decide +kernel
theorem dX4_isSame_267 : decode cX4_isSame 267 = .ok (.iconst 1, 1) := by decide +kernel
theorem dX4_isSame_268 : decode cX4_isSame 268 = .ok (.iaload, 1) := by decide +kernel
theorem dX4_isSame_269 : decode cX4_isSame 269 = .ok (.iadd, 1) := by decide +kernel
theorem dX4_isSame_270 : decode cX4_isSame 270 = .ok (.istore 4, 2) := by decide +kernel
theorem dX4_isSame_272 : decode cX4_isSame 272 = .ok (.aload_n 1, 1) := by decide +kernel
theorem dX4_isSame_273 : decode cX4_isSame 273 = .ok (.iload 5, 2) := by decide +kernel
theorem dX4_isSame_275 : decode cX4_isSame 275 = .ok (.invokevirtual 93, 3) := by decide +kernel
theorem dX4_isSame_278 : decode cX4_isSame 278 = .ok (.aload 6, 2) := by decide +kernel
theorem dX4_isSame_280 : decode cX4_isSame 280 = .ok (.iconst 0, 1) := by decide +kernel
theorem dX4_isSame_281 : decode cX4_isSame 281 = .ok (.iaload, 1) := by decide +kernel
theorem dX4_isSame_282 : decode cX4_isSame 282 = .ok (.if_icmp .ne 42, 3) := by decide +kernel
theorem dX4_isSame_285 : decode cX4_isSame 285 = .ok (.aload_n 1, 1) := by decide +kernel
theorem dX4_isSame_286 : decode cX4_isSame 286 = .ok (.iload 5, 2) := by decide +kernel
theorem dX4_isSame_288 : decode cX4_isSame 288 = .ok (.invokevirtual 96, 3) := by decide +kernel
theorem dX4_isSame_291 : decode cX4_isSame 291 = .ok (.aload 6, 2) := by decide +kernel
theorem dX4_isSame_293 : decode cX4_isSame 293 = .ok (.iconst 1, 1) := by decide +kernel
theorem dX4_isSame_294 : decode cX4_isSame 294 = .ok (.iaload, 1) := by decide +kernel
theorem dX4_isSame_295 : decode cX4_isSame 295 = .ok (.if_icmp .ne 29, 3) := by decide +kernel
theorem dX4_isSame_298 : decode cX4_isSame 298 = .ok (.aload_n 1, 1) := by decide +kernel
theorem dX4_isSame_299 : decode cX4_isSame 299 = .ok (.iload 5, 2) := by decide +kernel
theorem dX4_isSame_301 : decode cX4_isSame 301 = .ok (.invokevirtual 99, 3) := by decide +kernel
theorem dX4_isSame_304 : decode cX4_isSame 304 = .ok (.aload 6, 2) := by decide +kernel
theorem dX4_isSame_306 : decode cX4_isSame 306 = .ok (.iconst 2, 1) := by decide +kernel
theorem dX4_isSame_307 : decode cX4_isSame 307 = .ok (.iaload, 1) := by decide +kernel
theorem dX4_isSame_308 : decode cX4_isSame 308 = .ok (.if_icmp .ne 16, 3) := by decide +kernel
theorem dX4_isSame_311 : decode cX4_isSame 311 = .ok (.aload_n 1, 1) := by decide +kernel
theorem dX4_isSame_312 : decode cX4_isSame 312 = .ok (.iload 5, 2) := by decide +kernel
theorem dX4_isSame_314 : decode cX4_isSame 314 = .ok (.invokevirtual 102, 3) := by decide +kernel
theorem dX4_isSame_317 : decode cX4_isSame 317 = .ok (.aload 6, 2) := by decide +kernel
theorem dX4_isSame_319 : decode cX4_isSame 319 = .ok (.iconst 3, 1) := by decide +kernel
theorem dX4_isSame_320 : decode cX4_isSame 320 = .ok (.iaload, 1) := by decide +kernel
theorem dX4_isSame_321 : decode cX4_isSame 321 = .ok (.if_icmp .eq 5, 3) := by decide +kernel
theorem dX4_isSame_324 : decode cX4_isSame 324 = .ok (.iconst 0, 1) := by decide +kernel
theorem dX4_isSame_325 : decode cX4_isSame 325 = .ok (.ireturn, 1) := by decide +kernel
theorem dX4_isSame_326 : decode cX4_isSame 326 = .ok (.iinc 5 1, 3) := by decide +kernel
theorem dX4_isSame_329 : decode cX4_isSame 329 = .ok (.goto (-85), 3) := by decide +kernel
theorem dX4_isSame_332 : decode cX4_isSame 332 = .ok (.iconst 0, 1) := by decide +kernel
theorem dX4_isSame_333 : decode cX4_isSame 333 = .ok (.istore 5, 2) := by decide +kernel
theorem dX4_isSame_335 : decode cX4_isSame 335 = .ok (.iload 5, 2) := by decide +kernel
theorem dX4_isSame_337 : decode cX4_isSame 337 = .ok (.aload_n 0, 1) := by decide +kernel
theorem dX4_isSame_338 : decode cX4_isSame 338 = .ok (.getfield 18, 3) := by decide +kernel
theorem dX4_isSame_341 : decode cX4_isSame 341 = .ok (.arraylength, 1) := by decide +kernel
theorem dX4_isSame_342 : decode cX4_isSame 342 = .ok (.if_icmp .ge 152, 3) := by decide +kernel
theorem dX4_isSame_345 : decode cX4_isSame 345 = .ok (.aload_n 0, 1) := by decide +kernel
theorem dX4_isSame_346 : decode cX4_isSame 346 = .ok (.getfield 18, 3) := by decide +kernel
theorem dX4_isSame_349 : decode cX4_isSame 349 = .ok (.iload 5, 2) := by decide +kernel
theorem dX4_isSame_351 : decode cX4_isSame 351 = .ok (.aaload, 1) := by decide +kernel
theorem dX4_isSame_352 : decode cX4_isSame 352 = .ok (.astore 6, 2) := by decide +kernel
theorem dX4_isSame_354 : decode cX4_isSame 354 = .ok (.aload_n 0, 1) := by decide +kernel
theorem dX4_isSame_355 : decode cX4_isSame 355 = .ok (.aload 6, 2) := by decide +kernel
theorem dX4_isSame_357 : decode cX4_isSame 357 = .ok (.invokevirtual 33, 3) := by decide +kernel
theorem dX4_isSame_360 : decode cX4_isSame 360 = .ok (.istore 7, 2) := by decide +kernel
theorem dX4_isSame_362 : decode cX4_isSame 362 = .ok (.aload_n 1, 1) := by decide +kernel
theorem dX4_isSame_363 : decode cX4_isSame 363 = .ok (.iload 5, 2) := by decide +kernel
theorem dX4_isSame_365 : decode cX4_isSame 365 = .ok (.invokevirtual 105, 3) := by decide +kernel
theorem dX4_isSame_368 : decode cX4_isSame 368 = .ok (.aload 6, 2) := by decide +kernel
theorem dX4_isSame_370 : decode cX4_isSame 370 = .ok (.iconst 3, 1) := by decide +kernel
theorem dX4_isSame_371 : decode cX4_isSame 371 = .ok (.iaload, 1) := by decide +kernel
theorem dX4_isSame_372 : decode cX4_isSame 372 = .ok (.if_icmp .ne 114, 3) := by decide +kernel
theorem dX4_isSame_375 : decode cX4_isSame 375 = .ok (.aload_n 1, 1) := by decide +kernel
theorem dX4_isSame_376 : decode cX4_isSame 376 = .ok (.iload 5, 2) := by decide +kernel
theorem dX4_isSame_378 : decode cX4_isSame 378 = .ok (.invokevirtual 108, 3) := by decide +kernel
theorem dX4_isSame_381 : decode cX4_isSame 381 = .ok (.aload_n 0, 1) := by decide +kernel
theorem dX4_isSame_382 : decode cX4_isSame 382 = .ok (.aload 6, 2) := by decide +kernel
theorem dX4_isSame_384 : decode cX4_isSame 384 = .ok (.invokevirtual 21, 3) := by decide +kernel
theorem dX4_isSame_387 : decode cX4_isSame 387 = .ok (.if_icmp .ne 99, 3) := by decide +kernel
theorem dX4_isSame_390 : decode cX4_isSame 390 = .ok (.aload_n 1, 1) := by decide +kernel
theorem dX4_isSame_391 : decode cX4_isSame 391 = .ok (.iload 5, 2) := by decide +kernel
theorem dX4_isSame_393 : decode cX4_isSame 393 = .ok (.invokevirtual 112, 3) := by decide +kernel
theorem dX4_isSame_396 : decode cX4_isSame 396 = .ok (.aload 6, 2) := by decide +kernel
theorem dX4_isSame_398 : decode cX4_isSame 398 = .ok (.iconst 2, 1) := by decide +kernel
theorem dX4_isSame_399 : decode cX4_isSame 399 = .ok (.iaload, 1) := by decide +kernel
theorem dX4_isSame_400 : decode cX4_isSame 400 = .ok (.if_icmp .ne 86, 3) := by decide +kernel
theorem dX4_isSame_403 : decode cX4_isSame 403 = .ok (.aload_n 1, 1) := by decide +kernel
theorem dX4_isSame_404 : decode cX4_isSame 404 = .ok (.iload 5, 2) := by decide +kernel
theorem dX4_isSame_406 : decode cX4_isSame 406 = .ok (.invokevirtual 115, 3) := by decide +kernel
theorem dX4_isSame_409 : decode cX4_isSame 409 = .ok (.aload 6, 2) := by decide +kernel
theorem dX4_isSame_411 : decode cX4_isSame 411 = .ok (.iconst 1, 1) := by decide +kernel
theorem dX4_isSame_412 : decode cX4_isSame 412 = .ok (.iaload, 1) := by decide +kernel
theorem dX4_isSame_413 : decode cX4_isSame 413 = .ok (.if_icmp .ne 73, 3) := by decide +kernel
theorem dX4_isSame_416 : decode cX4_isSame 416 = .ok (.aload_n 1, 1) := by decide +kernel
theorem dX4_isSame_417 : decode cX4_isSame 417 = .ok (.iload 5, 2) := by decide +kernel
theorem dX4_isSame_419 : decode cX4_isSame 419 = .ok (.invokevirtual 118, 3) := by decide +kernel
theorem dX4_isSame_422 : decode cX4_isSame 422 = .ok (.aload 6, 2) := by decide +kernel
theorem dX4_isSame_424 : decode cX4_isSame 424 = .ok (.iconst 4, 1) := by decide +kernel
theorem dX4_isSame_425 : decode cX4_isSame 425 = .ok (.iaload, 1) := by decide +kernel
theorem dX4_isSame_426 : decode cX4_isSame 426 = .ok (.if_icmp .ne 60, 3) := by decide +kernel
theorem dX4_isSame_429 : decode cX4_isSame 429 = .ok (.aload_n 1, 1) := by decide +kernel
theorem dX4_isSame_430 : decode cX4_isSame 430 = .ok (.iload 5, 2) := by decide +kernel
theorem dX4_isSame_432 : decode cX4_isSame 432 = .ok (.invokevirtual 121, 3) := by decide +kernel
theorem dX4_isSame_435 : decode cX4_isSame 435 = .ok (.iload 7, 2) := by decide +kernel
theorem dX4_isSame_437 : decode cX4_isSame 437 = .ok (.if_icmp .ne 49, 3) := by decide +kernel
theorem dX4_isSame_440 : decode cX4_isSame 440 = .ok (.aload_n 1, 1) := by decide +kernel
theorem dX4_isSame_441 : decode cX4_isSame 441 = .ok (.iload 5, 2) := by decide +kernel
theorem dX4_isSame_443 : decode cX4_isSame 443 = .ok (.invokevirtual 123, 3) := by decide +kernel
theorem dX4_isSame_446 : decode cX4_isSame 446 = .ok (.iload 7, 2) := by decide +kernel
theorem dX4_isSame_448 : decode cX4_isSame 448 = .ok (.invokestatic 41, 3) := by decide +kernel
theorem dX4_isSame_451 : decode cX4_isSame 451 = .ok (.if_icmp .ne 35, 3) := by decide +kernel
theorem dX4_isSame_454 : decode cX4_isSame 454 = .ok (.aload_n 1, 1) := by decide +kernel
theorem dX4_isSame_455 : decode cX4_isSame 455 = .ok (.iload 5, 2) := by decide +kernel
theorem dX4_isSame_457 : decode cX4_isSame 457 = .ok (.invokevirtual 126, 3) := by decide +kernel
theorem dX4_isSame_460 : decode cX4_isSame 460 = .ok (.aload_n 0, 1) := by decide +kernel
theorem dX4_isSame_461 : decode cX4_isSame 461 = .ok (.aload 6, 2) := by decide +kernel
theorem dX4_isSame_463 : decode cX4_isSame 463 = .ok (.invokevirtual 21, 3) := by decide +kernel
theorem dX4_isSame_466 : decode cX4_isSame 466 = .ok (.ifCond .ne 16, 3) := by decide +kernel
theorem dX4_isSame_469 : decode cX4_isSame 469 = .ok (.iload 7, 2) := by decide +kernel
theorem dX4_isSame_471 : decode cX4_isSame 471 = .ok (.aload 6, 2) := by decide +kernel
theorem dX4_isSame_473 : decode cX4_isSame 473 = .ok (.iconst 1, 1) := by decide +kernel
theorem dX4_isSame_474 : decode cX4_isSame 474 = .ok (.iaload, 1) := by decide +kernel
theorem dX4_isSame_475 : decode cX4_isSame 475 = .ok (.if_icmp .gt 7, 3) := by decide +kernel
theorem dX4_isSame_478 : decode cX4_isSame 478 = .ok (.iconst 1, 1) := by decide +kernel
theorem dX4_isSame_479 : decode cX4_isSame 479 = .ok (.goto 4, 3) := by decide +kernel
theorem dX4_isSame_482 : decode cX4_isSame 482 = .ok (.iconst 0, 1) := by decide +kernel
theorem dX4_isSame_483 : decode cX4_isSame 483 = .ok (.if_icmp .eq 5, 3) := by decide +kernel
theorem dX4_isSame_486 : decode cX4_isSame 486 = .ok (.iconst 0, 1) := by decide +kernel
theorem dX4_isSame_487 : decode cX4_isSame 487 = .ok (.ireturn, 1) := by decide +kernel
theorem dX4_isSame_488 : decode cX4_isSame 488 = .ok (.iinc 5 1, 3) := by decide +kernel
theorem dX4_isSame_491 : decode cX4_isSame 491 = .ok (.goto (-156), 3) := by decide +kernel
theorem dX4_isSame_494 : decode cX4_isSame 494 = .ok (.aload_n 1, 1) := by decide +kernel
theorem dX4_isSame_495 : decode cX4_isSame 495 = .ok (.invokevirtual 129, 3) := by decide +kernel
theorem dX4_isSame_498 : decode cX4_isSame 498 = .ok (.iload_n 3, 1) := by decide +kernel
theorem dX4_isSame_499 : decode cX4_isSame 499 = .ok (.if_icmp .ne 37, 3) := by decide +kernel
theorem dX4_isSame_502 : decode cX4_isSame 502 = .ok (.aload_n 1, 1) := by decide +kernel
theorem dX4_isSame_503 : decode cX4_isSame 503 = .ok (.invokevirtual 132, 3) := by decide +kernel
theorem dX4_isSame_506 : decode cX4_isSame 506 = .ok (.aload_n 0, 1) := by decide +kernel
theorem dX4_isSame_507 : decode cX4_isSame 507 = .ok (.getfield 14, 3) := by decide +kernel
theorem dX4_isSame_510 : decode cX4_isSame 510 = .ok (.arraylength, 1) := by decide +kernel
theorem dX4_isSame_511 : decode cX4_isSame 511 = .ok (.ifCond .ne 7, 3) := by decide +kernel
theorem dX4_isSame_514 : decode cX4_isSame 514 = .ok (.dconst 0, 1) := by decide +kernel
theorem dX4_isSame_515 : decode cX4_isSame 515 = .ok (.goto 13, 3) := by decide +kernel
theorem dX4_isSame_518 : decode cX4_isSame 518 = .ok (.iload 4, 2) := by decide +kernel
theorem dX4_isSame_520 : decode cX4_isSame 520 = .ok (.i2d, 1) := by decide +kernel
theorem dX4_isSame_521 : decode cX4_isSame 521 = .ok (.aload_n 0, 1) := by decide +kernel
theorem dX4_isSame_522 : decode cX4_isSame 522 = .ok (.getfield 14, 3) := by decide +kernel
theorem dX4_isSame_525 : decode cX4_isSame 525 = .ok (.arraylength, 1) := by decide +kernel
theorem dX4_isSame_526 : decode cX4_isSame 526 = .ok (.i2d, 1) := by decide +kernel
theorem dX4_isSame_527 : decode cX4_isSame 527 = .ok (.ddiv, 1) := by decide +kernel
theorem dX4_isSame_528 : decode cX4_isSame 528 = .ok (.dcmp .l, 1) := by decide +kernel
theorem dX4_isSame_529 : decode cX4_isSame 529 = .ok (.ifCond .ne 7, 3) := by decide +kernel
theorem dX4_isSame_532 : decode cX4_isSame 532 = .ok (.iconst 1, 1) := by decide +kernel
theorem dX4_isSame_533 : decode cX4_isSame 533 = .ok (.goto 4, 3) := by decide +kernel
theorem dX4_isSame_536 : decode cX4_isSame 536 = .ok (.iconst 0, 1) := by decide +kernel
theorem dX4_isSame_537 : decode cX4_isSame 537 = .ok (.ireturn, 1) := by decide +kernel
