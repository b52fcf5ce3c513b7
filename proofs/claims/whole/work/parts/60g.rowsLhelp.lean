theorem dJ9_max_7cf53_0 : decode cJ9_max_7cf53 0 = .ok (.iload_n 0, 1) := by decide +kernel
theorem dJ9_max_7cf53_1 : decode cJ9_max_7cf53 1 = .ok (.iload_n 1, 1) := by decide +kernel
theorem dJ9_max_7cf53_2 : decode cJ9_max_7cf53 2 = .ok (.if_icmp .lt 7, 3) := by decide +kernel
theorem dJ9_max_7cf53_5 : decode cJ9_max_7cf53 5 = .ok (.iload_n 0, 1) := by decide +kernel
theorem dJ9_max_7cf53_6 : decode cJ9_max_7cf53 6 = .ok (.goto 4, 3) := by decide +kernel
theorem dJ9_max_7cf53_9 : decode cJ9_max_7cf53 9 = .ok (.iload_n 1, 1) := by decide +kernel
theorem dJ9_max_7cf53_10 : decode cJ9_max_7cf53 10 = .ok (.ireturn, 1) := by decide +kernel
theorem dJ9_min_7cf53_0 : decode cJ9_min_7cf53 0 = .ok (.iload_n 0, 1) := by decide +kernel
theorem dJ9_min_7cf53_1 : decode cJ9_min_7cf53 1 = .ok (.iload_n 1, 1) := by decide +kernel
theorem dJ9_min_7cf53_2 : decode cJ9_min_7cf53 2 = .ok (.if_icmp .gt 7, 3) := by decide +kernel
theorem dJ9_min_7cf53_5 : decode cJ9_min_7cf53 5 = .ok (.iload_n 0, 1) := by decide +kernel
theorem dJ9_min_7cf53_6 : decode cJ9_min_7cf53 6 = .ok (.goto 4, 3) := by decide +kernel
theorem dJ9_min_7cf53_9 : decode cJ9_min_7cf53 9 = .ok (.iload_n 1, 1) := by decide +kernel
theorem dJ9_min_7cf53_10 : decode cJ9_min_7cf53 10 = .ok (.ireturn, 1) := by decide +kernel
set_option maxRecDepth 20000 in
theorem ggL_addGate_X3_addGate : GoodIn wsL_addGate wsX3_addGate := goodIn_ca (goodIn_ca (goodIn_r _ [7, 8, 9, 10, 11, 12, 13, 6, 14, 15, 16, 17, 18, 19, 20, 21, 22, 23, 24, 25, 26, 27, 28, 29, 30, 31, 32, 33, 34, 35, 36, 37, 38, 39, 40, 41, 42, 43, 44, 45, 46, 47, 48, 49] (by decide +kernel) (by decide +kernel)) (goodIn_sub (fun _ h => List.mem_cons_of_mem _ (List.mem_append_left _ (List.mem_append_right _ h))) (by decide +kernel))) (goodIn_sub (fun _ h => List.mem_cons_of_mem _ (List.mem_append_right _ h)) (by decide +kernel))
set_option maxRecDepth 20000 in
theorem gL_addGate_X3_addGate : GoodIn wsL_addGate (wsV RL 7 RX3 yX3_addGate wsX3_addGate) := goodIn_app (goodIn_of _ (by decide +kernel)) ggL_addGate_X3_addGate
theorem dL_addGate_0 : decode cL_addGate 0 = .ok (.aload_n 2, 1) := by decide +kernel
theorem dL_addGate_1 : decode cL_addGate 1 = .ok (.iconst 0, 1) := by decide +kernel
theorem dL_addGate_2 : decode cL_addGate 2 = .ok (.aload_n 0, 1) := by decide +kernel
theorem dL_addGate_3 : decode cL_addGate 3 = .ok (.iload_n 1, 1) := by decide +kernel
theorem dL_addGate_4 : decode cL_addGate 4 = .ok (.invokevirtual 7, 3) := by decide +kernel
theorem dL_addGate_7 : decode cL_addGate 7 = .ok (.i2l, 1) := by decide +kernel
theorem dL_addGate_8 : decode cL_addGate 8 = .ok (.lastore, 1) := by decide +kernel
theorem dL_addGate_9 : decode cL_addGate 9 = .ok (.goto 9, 3) := by decide +kernel
theorem dL_addGate_12 : decode cL_addGate 12 = .ok (.astore_n 3, 1) := by decide +kernel
theorem dL_addGate_13 : decode cL_addGate 13 = .ok (.iconst 1, 1) := by decide +kernel
theorem dL_addGate_14 : decode cL_addGate 14 = .ok (.ireturn, 1) := by decide +kernel
theorem dL_addGate_15 : decode cL_addGate 15 = .ok (.astore_n 3, 1) := by decide +kernel
theorem dL_addGate_16 : decode cL_addGate 16 = .ok (.iconst 2, 1) := by decide +kernel
theorem dL_addGate_17 : decode cL_addGate 17 = .ok (.ireturn, 1) := by decide +kernel
theorem dL_addGate_18 : decode cL_addGate 18 = .ok (.iconst 0, 1) := by decide +kernel
theorem dL_addGate_19 : decode cL_addGate 19 = .ok (.ireturn, 1) := by decide +kernel
set_option maxRecDepth 20000 in
theorem ggL_addGoose_X3_addGoose : GoodIn wsL_addGoose wsX3_addGoose := goodIn_ca (goodIn_ca (goodIn_ca (goodIn_r _ [8, 9, 10, 11, 12, 13, 14, 15, 16, 17, 18, 19, 7, 20, 21, 22, 23, 24, 25, 26, 27, 28, 29, 30, 31, 32, 33, 34, 35, 36, 37, 38, 39, 40, 41, 42, 43, 44, 45, 46, 47, 48, 49, 50, 51, 52, 53, 54, 55, 56, 57] (by decide +kernel) (by decide +kernel)) (goodIn_sub (fun _ h => List.mem_cons_of_mem _ (List.mem_append_left _ (List.mem_append_left _ (List.mem_append_right _ h)))) (by decide +kernel))) (goodIn_sub (fun _ h => List.mem_cons_of_mem _ (List.mem_append_left _ (List.mem_append_right _ h))) (by decide +kernel))) (goodIn_sub (fun _ h => List.mem_cons_of_mem _ (List.mem_append_right _ h)) (by decide +kernel))
set_option maxRecDepth 20000 in
theorem gL_addGoose_X3_addGoose : GoodIn wsL_addGoose (wsV RL 17 RX3 yX3_addGoose wsX3_addGoose) := goodIn_app (goodIn_of _ (by decide +kernel)) ggL_addGoose_X3_addGoose
theorem dL_addGoose_0 : decode cL_addGoose 0 = .ok (.aload_n 3, 1) := by decide +kernel
theorem dL_addGoose_1 : decode cL_addGoose 1 = .ok (.iconst 0, 1) := by decide +kernel
theorem dL_addGoose_2 : decode cL_addGoose 2 = .ok (.aload_n 0, 1) := by decide +kernel
theorem dL_addGoose_3 : decode cL_addGoose 3 = .ok (.iload_n 1, 1) := by decide +kernel
theorem dL_addGoose_4 : decode cL_addGoose 4 = .ok (.iload_n 2, 1) := by decide +kernel
theorem dL_addGoose_5 : decode cL_addGoose 5 = .ok (.invokevirtual 17, 3) := by decide +kernel
theorem dL_addGoose_8 : decode cL_addGoose 8 = .ok (.i2l, 1) := by decide +kernel
theorem dL_addGoose_9 : decode cL_addGoose 9 = .ok (.lastore, 1) := by decide +kernel
theorem dL_addGoose_10 : decode cL_addGoose 10 = .ok (.goto 15, 3) := by decide +kernel
theorem dL_addGoose_13 : decode cL_addGoose 13 = .ok (.astore 4, 2) := by decide +kernel
theorem dL_addGoose_15 : decode cL_addGoose 15 = .ok (.iconst 1, 1) := by decide +kernel
theorem dL_addGoose_16 : decode cL_addGoose 16 = .ok (.ireturn, 1) := by decide +kernel
theorem dL_addGoose_17 : decode cL_addGoose 17 = .ok (.astore 4, 2) := by decide +kernel
theorem dL_addGoose_19 : decode cL_addGoose 19 = .ok (.iconst 2, 1) := by decide +kernel
theorem dL_addGoose_20 : decode cL_addGoose 20 = .ok (.ireturn, 1) := by decide +kernel
theorem dL_addGoose_21 : decode cL_addGoose 21 = .ok (.astore 4, 2) := by decide +kernel
theorem dL_addGoose_23 : decode cL_addGoose 23 = .ok (.iconst 3, 1) := by decide +kernel
theorem dL_addGoose_24 : decode cL_addGoose 24 = .ok (.ireturn, 1) := by decide +kernel
theorem dL_addGoose_25 : decode cL_addGoose 25 = .ok (.iconst 0, 1) := by decide +kernel
theorem dL_addGoose_26 : decode cL_addGoose 26 = .ok (.ireturn, 1) := by decide +kernel
set_option maxRecDepth 20000 in
theorem ggL_arrive_X3_arrive : GoodIn wsL_arrive wsX3_arrive := goodIn_ca (goodIn_ca (goodIn_r _ [7, 8, 9, 10, 11, 12, 13, 6, 14, 15, 16, 17, 18, 19, 20, 21, 22, 23, 24, 25, 26, 27, 28, 29, 30, 31, 32, 33, 34, 35, 36, 37, 38, 39, 40, 41, 42, 43, 44, 45, 46, 47, 48, 49, 50, 51, 52, 53, 54] (by decide +kernel) (by decide +kernel)) (goodIn_sub (fun _ h => List.mem_cons_of_mem _ (List.mem_append_left _ (List.mem_append_right _ h))) (by decide +kernel))) (goodIn_sub (fun _ h => List.mem_cons_of_mem _ (List.mem_append_right _ h)) (by decide +kernel))
set_option maxRecDepth 20000 in
theorem gL_arrive_X3_arrive : GoodIn wsL_arrive (wsV RL 23 RX3 yX3_arrive wsX3_arrive) := goodIn_app (goodIn_of _ (by decide +kernel)) ggL_arrive_X3_arrive
theorem dL_arrive_0 : decode cL_arrive 0 = .ok (.aload 4, 2) := by decide +kernel
theorem dL_arrive_2 : decode cL_arrive 2 = .ok (.iconst 0, 1) := by decide +kernel
theorem dL_arrive_3 : decode cL_arrive 3 = .ok (.aload_n 0, 1) := by decide +kernel
theorem dL_arrive_4 : decode cL_arrive 4 = .ok (.iload_n 1, 1) := by decide +kernel
theorem dL_arrive_5 : decode cL_arrive 5 = .ok (.iload_n 2, 1) := by decide +kernel
theorem dL_arrive_6 : decode cL_arrive 6 = .ok (.iload_n 3, 1) := by decide +kernel
theorem dL_arrive_7 : decode cL_arrive 7 = .ok (.invokevirtual 23, 3) := by decide +kernel
theorem dL_arrive_10 : decode cL_arrive 10 = .ok (.i2l, 1) := by decide +kernel
theorem dL_arrive_11 : decode cL_arrive 11 = .ok (.lastore, 1) := by decide +kernel
theorem dL_arrive_12 : decode cL_arrive 12 = .ok (.goto 11, 3) := by decide +kernel
theorem dL_arrive_15 : decode cL_arrive 15 = .ok (.astore 5, 2) := by decide +kernel
theorem dL_arrive_17 : decode cL_arrive 17 = .ok (.iconst 1, 1) := by decide +kernel
theorem dL_arrive_18 : decode cL_arrive 18 = .ok (.ireturn, 1) := by decide +kernel
theorem dL_arrive_19 : decode cL_arrive 19 = .ok (.astore 5, 2) := by decide +kernel
theorem dL_arrive_21 : decode cL_arrive 21 = .ok (.iconst 2, 1) := by decide +kernel
theorem dL_arrive_22 : decode cL_arrive 22 = .ok (.ireturn, 1) := by decide +kernel
theorem dL_arrive_23 : decode cL_arrive 23 = .ok (.iconst 0, 1) := by decide +kernel
theorem dL_arrive_24 : decode cL_arrive 24 = .ok (.ireturn, 1) := by decide +kernel
set_option maxRecDepth 20000 in
theorem ggL_setRank_X3_setRank : GoodIn wsL_setRank wsX3_setRank := goodIn_ca (goodIn_ca (goodIn_r _ [7, 8, 9, 10, 11, 12, 13, 14, 15, 16, 17, 6, 18, 19, 20, 21, 22, 23, 24, 25, 26, 27, 28, 29, 30, 31, 32, 33, 34, 35, 36, 37, 38, 39, 40] (by decide +kernel) (by decide +kernel)) (goodIn_sub (fun _ h => List.mem_cons_of_mem _ (List.mem_append_left _ (List.mem_append_right _ h))) (by decide +kernel))) (goodIn_sub (fun _ h => List.mem_cons_of_mem _ (List.mem_append_right _ h)) (by decide +kernel))
set_option maxRecDepth 20000 in
theorem gL_setRank_X3_setRank : GoodIn wsL_setRank (wsV RL 27 RX3 yX3_setRank wsX3_setRank) := goodIn_app (goodIn_of _ (by decide +kernel)) ggL_setRank_X3_setRank
theorem dL_setRank_0 : decode cL_setRank 0 = .ok (.aload_n 3, 1) := by decide +kernel
theorem dL_setRank_1 : decode cL_setRank 1 = .ok (.iconst 0, 1) := by decide +kernel
theorem dL_setRank_2 : decode cL_setRank 2 = .ok (.aload_n 0, 1) := by decide +kernel
theorem dL_setRank_3 : decode cL_setRank 3 = .ok (.iload_n 1, 1) := by decide +kernel
theorem dL_setRank_4 : decode cL_setRank 4 = .ok (.iload_n 2, 1) := by decide +kernel
theorem dL_setRank_5 : decode cL_setRank 5 = .ok (.invokevirtual 27, 3) := by decide +kernel
theorem dL_setRank_8 : decode cL_setRank 8 = .ok (.i2l, 1) := by decide +kernel
theorem dL_setRank_9 : decode cL_setRank 9 = .ok (.lastore, 1) := by decide +kernel
theorem dL_setRank_10 : decode cL_setRank 10 = .ok (.goto 11, 3) := by decide +kernel
theorem dL_setRank_13 : decode cL_setRank 13 = .ok (.astore 4, 2) := by decide +kernel
theorem dL_setRank_15 : decode cL_setRank 15 = .ok (.iconst 1, 1) := by decide +kernel
theorem dL_setRank_16 : decode cL_setRank 16 = .ok (.ireturn, 1) := by decide +kernel
theorem dL_setRank_17 : decode cL_setRank 17 = .ok (.astore 4, 2) := by decide +kernel
theorem dL_setRank_19 : decode cL_setRank 19 = .ok (.iconst 2, 1) := by decide +kernel
theorem dL_setRank_20 : decode cL_setRank 20 = .ok (.ireturn, 1) := by decide +kernel
theorem dL_setRank_21 : decode cL_setRank 21 = .ok (.iconst 0, 1) := by decide +kernel
theorem dL_setRank_22 : decode cL_setRank 22 = .ok (.ireturn, 1) := by decide +kernel
set_option maxRecDepth 20000 in
theorem ggL_lead_X3_lead : GoodIn wsL_lead wsX3_lead := goodIn_ca (goodIn_r _ [6, 7, 8, 9, 10, 11, 12, 13, 14, 15, 16, 17, 18, 19, 20, 21, 22, 23, 5, 24, 25, 26, 27, 28, 29, 30, 31, 32, 33, 34, 35, 36, 37, 38, 39, 40] (by decide +kernel) (by decide +kernel)) (goodIn_sub (fun _ h => List.mem_cons_of_mem _ (List.mem_append_right _ h)) (by decide +kernel))
set_option maxRecDepth 20000 in
theorem gL_lead_X3_lead : GoodIn wsL_lead (wsV RL 30 RX3 yX3_lead wsX3_lead) := goodIn_app (goodIn_of _ (by decide +kernel)) ggL_lead_X3_lead
theorem dL_lead_0 : decode cL_lead 0 = .ok (.aload_n 3, 1) := by decide +kernel
theorem dL_lead_1 : decode cL_lead 1 = .ok (.iconst 0, 1) := by decide +kernel
theorem dL_lead_2 : decode cL_lead 2 = .ok (.aload_n 0, 1) := by decide +kernel
theorem dL_lead_3 : decode cL_lead 3 = .ok (.iload_n 1, 1) := by decide +kernel
theorem dL_lead_4 : decode cL_lead 4 = .ok (.iload_n 2, 1) := by decide +kernel
theorem dL_lead_5 : decode cL_lead 5 = .ok (.invokevirtual 30, 3) := by decide +kernel
theorem dL_lead_8 : decode cL_lead 8 = .ok (.i2l, 1) := by decide +kernel
theorem dL_lead_9 : decode cL_lead 9 = .ok (.lastore, 1) := by decide +kernel
theorem dL_lead_10 : decode cL_lead 10 = .ok (.goto 7, 3) := by decide +kernel
theorem dL_lead_13 : decode cL_lead 13 = .ok (.astore 4, 2) := by decide +kernel
theorem dL_lead_15 : decode cL_lead 15 = .ok (.iconst 1, 1) := by decide +kernel
theorem dL_lead_16 : decode cL_lead 16 = .ok (.ireturn, 1) := by decide +kernel
theorem dL_lead_17 : decode cL_lead 17 = .ok (.iconst 0, 1) := by decide +kernel
theorem dL_lead_18 : decode cL_lead 18 = .ok (.ireturn, 1) := by decide +kernel
set_option maxRecDepth 20000 in
theorem ggL_giveCorns_X3_giveCorns : GoodIn wsL_giveCorns wsX3_giveCorns := goodIn_ca (goodIn_ca (goodIn_r _ [7, 8, 9, 10, 11, 12, 13, 14, 15, 16, 17, 6, 18, 19, 20, 21, 22, 23, 24, 25, 26, 27, 28, 29, 30, 31, 32, 33, 34, 35, 36, 37, 38, 39, 40, 41, 42, 43, 44, 45, 46, 47, 48, 49, 50, 51, 52] (by decide +kernel) (by decide +kernel)) (goodIn_sub (fun _ h => List.mem_cons_of_mem _ (List.mem_append_left _ (List.mem_append_right _ h))) (by decide +kernel))) (goodIn_sub (fun _ h => List.mem_cons_of_mem _ (List.mem_append_right _ h)) (by decide +kernel))
set_option maxRecDepth 20000 in
theorem gL_giveCorns_X3_giveCorns : GoodIn wsL_giveCorns (wsV RL 33 RX3 yX3_giveCorns wsX3_giveCorns) := goodIn_app (goodIn_of _ (by decide +kernel)) ggL_giveCorns_X3_giveCorns
theorem dL_giveCorns_0 : decode cL_giveCorns 0 = .ok (.aload_n 3, 1) := by decide +kernel
theorem dL_giveCorns_1 : decode cL_giveCorns 1 = .ok (.iconst 0, 1) := by decide +kernel
theorem dL_giveCorns_2 : decode cL_giveCorns 2 = .ok (.aload_n 0, 1) := by decide +kernel
theorem dL_giveCorns_3 : decode cL_giveCorns 3 = .ok (.iload_n 1, 1) := by decide +kernel
theorem dL_giveCorns_4 : decode cL_giveCorns 4 = .ok (.iload_n 2, 1) := by decide +kernel
theorem dL_giveCorns_5 : decode cL_giveCorns 5 = .ok (.invokevirtual 33, 3) := by decide +kernel
theorem dL_giveCorns_8 : decode cL_giveCorns 8 = .ok (.i2l, 1) := by decide +kernel
theorem dL_giveCorns_9 : decode cL_giveCorns 9 = .ok (.lastore, 1) := by decide +kernel
theorem dL_giveCorns_10 : decode cL_giveCorns 10 = .ok (.goto 11, 3) := by decide +kernel
theorem dL_giveCorns_13 : decode cL_giveCorns 13 = .ok (.astore 4, 2) := by decide +kernel
theorem dL_giveCorns_15 : decode cL_giveCorns 15 = .ok (.iconst 1, 1) := by decide +kernel
theorem dL_giveCorns_16 : decode cL_giveCorns 16 = .ok (.ireturn, 1) := by decide +kernel
theorem dL_giveCorns_17 : decode cL_giveCorns 17 = .ok (.astore 4, 2) := by decide +kernel
theorem dL_giveCorns_19 : decode cL_giveCorns 19 = .ok (.iconst 2, 1) := by decide +kernel
theorem dL_giveCorns_20 : decode cL_giveCorns 20 = .ok (.ireturn, 1) := by decide +kernel
theorem dL_giveCorns_21 : decode cL_giveCorns 21 = .ok (.iconst 0, 1) := by decide +kernel
theorem dL_giveCorns_22 : decode cL_giveCorns 22 = .ok (.ireturn, 1) := by decide +kernel
set_option maxRecDepth 20000 in
theorem ggL_bribe_X3_bribe : GoodIn wsL_bribe wsX3_bribe := goodIn_ca (goodIn_ca (goodIn_r _ [7, 8, 9, 10, 11, 12, 13, 14, 15, 16, 17, 6, 18, 19, 20, 21, 22, 23, 24, 25, 26, 27, 28, 29, 30, 31, 32, 33, 34, 35, 36, 37, 38, 39, 40, 41, 42, 43, 44, 45, 46, 47, 48, 49, 50, 51, 52, 53, 54, 55, 56, 57, 58, 59, 60, 61, 62, 63, 64, 65, 66, 67, 68, 69, 70, 71, 72, 73, 74, 75, 76, 77, 78, 79, 80, 81, 82, 83, 84, 85, 86, 87, 88, 89, 90] (by decide +kernel) (by decide +kernel)) (goodIn_sub (fun _ h => List.mem_cons_of_mem _ (List.mem_append_left _ (List.mem_append_right _ h))) (by decide +kernel))) (goodIn_sub (fun _ h => List.mem_cons_of_mem _ (List.mem_append_right _ h)) (by decide +kernel))
set_option maxRecDepth 20000 in
theorem gL_bribe_X3_bribe : GoodIn wsL_bribe (wsV RL 36 RX3 yX3_bribe wsX3_bribe) := goodIn_app (goodIn_of _ (by decide +kernel)) ggL_bribe_X3_bribe
theorem dL_bribe_0 : decode cL_bribe 0 = .ok (.aload_n 3, 1) := by decide +kernel
theorem dL_bribe_1 : decode cL_bribe 1 = .ok (.iconst 0, 1) := by decide +kernel
theorem dL_bribe_2 : decode cL_bribe 2 = .ok (.aload_n 0, 1) := by decide +kernel
theorem dL_bribe_3 : decode cL_bribe 3 = .ok (.iload_n 1, 1) := by decide +kernel
theorem dL_bribe_4 : decode cL_bribe 4 = .ok (.iload_n 2, 1) := by decide +kernel
theorem dL_bribe_5 : decode cL_bribe 5 = .ok (.invokevirtual 36, 3) := by decide +kernel
theorem dL_bribe_8 : decode cL_bribe 8 = .ok (.i2l, 1) := by decide +kernel
theorem dL_bribe_9 : decode cL_bribe 9 = .ok (.lastore, 1) := by decide +kernel
theorem dL_bribe_10 : decode cL_bribe 10 = .ok (.goto 11, 3) := by decide +kernel
theorem dL_bribe_13 : decode cL_bribe 13 = .ok (.astore 4, 2) := by decide +kernel
theorem dL_bribe_15 : decode cL_bribe 15 = .ok (.iconst 1, 1) := by decide +kernel
theorem dL_bribe_16 : decode cL_bribe 16 = .ok (.ireturn, 1) := by decide +kernel
theorem dL_bribe_17 : decode cL_bribe 17 = .ok (.astore 4, 2) := by decide +kernel
theorem dL_bribe_19 : decode cL_bribe 19 = .ok (.iconst 2, 1) := by decide +kernel
theorem dL_bribe_20 : decode cL_bribe 20 = .ok (.ireturn, 1) := by decide +kernel
theorem dL_bribe_21 : decode cL_bribe 21 = .ok (.iconst 0, 1) := by decide +kernel
theorem dL_bribe_22 : decode cL_bribe 22 = .ok (.ireturn, 1) := by decide +kernel
set_option maxRecDepth 20000 in
theorem ggL_passBeats_X3_passBeats : GoodIn wsL_passBeats wsX3_passBeats := goodIn_ca (goodIn_r _ [6, 7, 8, 9, 5, 10, 11, 12, 13, 14, 15, 16, 17, 18, 19, 20, 21, 22, 23, 24, 25, 26, 27, 28, 29, 30, 31, 32, 33, 34, 35, 36, 37, 38, 39, 40, 41, 42, 43, 44, 45, 46, 47, 48, 49, 50, 51, 52, 53, 54, 55, 56, 57, 58, 59, 60, 61, 62, 63, 64, 65, 66, 67, 68, 69, 70, 71, 72, 73, 74, 75, 76, 77, 78, 79, 80, 81, 82, 83, 84, 85, 86, 87, 88, 89, 90, 91, 92, 93, 94, 95, 96, 97, 98, 99, 100, 101, 102, 103, 104, 105, 106, 107, 108, 109, 110, 111, 112, 113, 114, 115, 116, 117, 118, 119, 120, 121, 122, 123, 124, 125, 126, 127, 128, 129, 130, 131, 132, 133, 134, 135, 136, 137, 138, 139, 140, 141] (by decide +kernel) (by decide +kernel)) (goodIn_sub (fun _ h => List.mem_cons_of_mem _ (List.mem_append_right _ h)) (by decide +kernel))
set_option maxRecDepth 20000 in
theorem gL_passBeats_X3_passBeats : GoodIn wsL_passBeats (wsV RL 39 RX3 yX3_passBeats wsX3_passBeats) := goodIn_app (goodIn_of _ (by decide +kernel)) ggL_passBeats_X3_passBeats
theorem dL_passBeats_0 : decode cL_passBeats 0 = .ok (.aload_n 2, 1) := by decide +kernel
theorem dL_passBeats_1 : decode cL_passBeats 1 = .ok (.iconst 0, 1) := by decide +kernel
theorem dL_passBeats_2 : decode cL_passBeats 2 = .ok (.aload_n 0, 1) := by decide +kernel
theorem dL_passBeats_3 : decode cL_passBeats 3 = .ok (.iload_n 1, 1) := by decide +kernel
theorem dL_passBeats_4 : decode cL_passBeats 4 = .ok (.invokevirtual 39, 3) := by decide +kernel
theorem dL_passBeats_7 : decode cL_passBeats 7 = .ok (.i2l, 1) := by decide +kernel
theorem dL_passBeats_8 : decode cL_passBeats 8 = .ok (.lastore, 1) := by decide +kernel
theorem dL_passBeats_9 : decode cL_passBeats 9 = .ok (.goto 6, 3) := by decide +kernel
theorem dL_passBeats_12 : decode cL_passBeats 12 = .ok (.astore_n 3, 1) := by decide +kernel
theorem dL_passBeats_13 : decode cL_passBeats 13 = .ok (.iconst 1, 1) := by decide +kernel
theorem dL_passBeats_14 : decode cL_passBeats 14 = .ok (.ireturn, 1) := by decide +kernel
theorem dL_passBeats_15 : decode cL_passBeats 15 = .ok (.iconst 0, 1) := by decide +kernel
theorem dL_passBeats_16 : decode cL_passBeats 16 = .ok (.ireturn, 1) := by decide +kernel
set_option maxRecDepth 20000 in
theorem ggL_rankOf_X3_rankOf : GoodIn wsL_rankOf wsX3_rankOf := goodIn_ca (goodIn_r _ [6, 7, 8, 9, 10, 11, 12, 13, 14, 15, 16, 5, 17, 18, 19, 20, 21, 22, 23, 24, 25, 26, 27, 28] (by decide +kernel) (by decide +kernel)) (goodIn_sub (fun _ h => List.mem_cons_of_mem _ (List.mem_append_right _ h)) (by decide +kernel))
set_option maxRecDepth 20000 in
theorem gL_rankOf_X3_rankOf : GoodIn wsL_rankOf (wsV RL 42 RX3 yX3_rankOf wsX3_rankOf) := goodIn_app (goodIn_of _ (by decide +kernel)) ggL_rankOf_X3_rankOf
theorem dL_rankOf_0 : decode cL_rankOf 0 = .ok (.aload_n 2, 1) := by decide +kernel
theorem dL_rankOf_1 : decode cL_rankOf 1 = .ok (.iconst 0, 1) := by decide +kernel
theorem dL_rankOf_2 : decode cL_rankOf 2 = .ok (.aload_n 0, 1) := by decide +kernel
theorem dL_rankOf_3 : decode cL_rankOf 3 = .ok (.iload_n 1, 1) := by decide +kernel
theorem dL_rankOf_4 : decode cL_rankOf 4 = .ok (.invokevirtual 42, 3) := by decide +kernel
theorem dL_rankOf_7 : decode cL_rankOf 7 = .ok (.i2l, 1) := by decide +kernel
theorem dL_rankOf_8 : decode cL_rankOf 8 = .ok (.lastore, 1) := by decide +kernel
theorem dL_rankOf_9 : decode cL_rankOf 9 = .ok (.goto 6, 3) := by decide +kernel
theorem dL_rankOf_12 : decode cL_rankOf 12 = .ok (.astore_n 3, 1) := by decide +kernel
theorem dL_rankOf_13 : decode cL_rankOf 13 = .ok (.iconst 1, 1) := by decide +kernel
theorem dL_rankOf_14 : decode cL_rankOf 14 = .ok (.ireturn, 1) := by decide +kernel
theorem dL_rankOf_15 : decode cL_rankOf 15 = .ok (.iconst 0, 1) := by decide +kernel
theorem dL_rankOf_16 : decode cL_rankOf 16 = .ok (.ireturn, 1) := by decide +kernel
set_option maxRecDepth 20000 in
theorem ggL_awakeAt_X3_awakeAt : GoodIn wsL_awakeAt wsX3_awakeAt := goodIn_ca (goodIn_r _ [6, 7, 8, 9, 10, 11, 12, 13, 14, 15, 16, 5, 17, 18, 19, 20, 21, 22, 23, 24, 25, 26, 27, 28, 29, 30, 31, 32, 33, 34, 35, 36, 37, 38, 39, 40, 41, 42, 43, 44, 45] (by decide +kernel) (by decide +kernel)) (goodIn_sub (fun _ h => List.mem_cons_of_mem _ (List.mem_append_right _ h)) (by decide +kernel))
set_option maxRecDepth 20000 in
theorem gL_awakeAt_X3_awakeAt : GoodIn wsL_awakeAt (wsV RL 45 RX3 yX3_awakeAt wsX3_awakeAt) := goodIn_app (goodIn_of _ (by decide +kernel)) ggL_awakeAt_X3_awakeAt
theorem dL_awakeAt_0 : decode cL_awakeAt 0 = .ok (.aload_n 2, 1) := by decide +kernel
theorem dL_awakeAt_1 : decode cL_awakeAt 1 = .ok (.iconst 0, 1) := by decide +kernel
theorem dL_awakeAt_2 : decode cL_awakeAt 2 = .ok (.aload_n 0, 1) := by decide +kernel
theorem dL_awakeAt_3 : decode cL_awakeAt 3 = .ok (.iload_n 1, 1) := by decide +kernel
theorem dL_awakeAt_4 : decode cL_awakeAt 4 = .ok (.invokevirtual 45, 3) := by decide +kernel
theorem dL_awakeAt_7 : decode cL_awakeAt 7 = .ok (.i2l, 1) := by decide +kernel
theorem dL_awakeAt_8 : decode cL_awakeAt 8 = .ok (.lastore, 1) := by decide +kernel
theorem dL_awakeAt_9 : decode cL_awakeAt 9 = .ok (.goto 6, 3) := by decide +kernel
theorem dL_awakeAt_12 : decode cL_awakeAt 12 = .ok (.astore_n 3, 1) := by decide +kernel
theorem dL_awakeAt_13 : decode cL_awakeAt 13 = .ok (.iconst 1, 1) := by decide +kernel
theorem dL_awakeAt_14 : decode cL_awakeAt 14 = .ok (.ireturn, 1) := by decide +kernel
theorem dL_awakeAt_15 : decode cL_awakeAt 15 = .ok (.iconst 0, 1) := by decide +kernel
theorem dL_awakeAt_16 : decode cL_awakeAt 16 = .ok (.ireturn, 1) := by decide +kernel
set_option maxRecDepth 20000 in
theorem ggL_hissOf_X3_hissOf : GoodIn wsL_hissOf wsX3_hissOf := goodIn_ca (goodIn_ca (goodIn_r _ [7, 8, 9, 10, 11, 12, 13, 14, 15, 16, 6, 17, 18, 19, 20, 21, 22, 23, 24, 25, 26, 27, 28, 29, 30, 31, 32, 33, 34, 35, 36, 37, 38, 39, 40, 41, 42, 43, 44, 45, 46, 47, 48, 49, 50, 51, 52, 53, 54, 55, 56, 57, 58, 59, 60, 61, 62, 63, 64, 65, 66, 67, 68, 69, 70, 71, 72] (by decide +kernel) (by decide +kernel)) (goodIn_sub (fun _ h => List.mem_cons_of_mem _ (List.mem_append_left _ (List.mem_append_right _ h))) (by decide +kernel))) (goodIn_sub (fun _ h => List.mem_cons_of_mem _ (List.mem_append_right _ h)) (by decide +kernel))
set_option maxRecDepth 20000 in
theorem gL_hissOf_X3_hissOf : GoodIn wsL_hissOf (wsV RL 48 RX3 yX3_hissOf wsX3_hissOf) := goodIn_app (goodIn_of _ (by decide +kernel)) ggL_hissOf_X3_hissOf
theorem dL_hissOf_0 : decode cL_hissOf 0 = .ok (.aload_n 3, 1) := by decide +kernel
theorem dL_hissOf_1 : decode cL_hissOf 1 = .ok (.iconst 0, 1) := by decide +kernel
theorem dL_hissOf_2 : decode cL_hissOf 2 = .ok (.aload_n 0, 1) := by decide +kernel
theorem dL_hissOf_3 : decode cL_hissOf 3 = .ok (.iload_n 1, 1) := by decide +kernel
theorem dL_hissOf_4 : decode cL_hissOf 4 = .ok (.iload_n 2, 1) := by decide +kernel
theorem dL_hissOf_5 : decode cL_hissOf 5 = .ok (.invokevirtual 48, 3) := by decide +kernel
theorem dL_hissOf_8 : decode cL_hissOf 8 = .ok (.i2l, 1) := by decide +kernel
theorem dL_hissOf_9 : decode cL_hissOf 9 = .ok (.lastore, 1) := by decide +kernel
theorem dL_hissOf_10 : decode cL_hissOf 10 = .ok (.goto 11, 3) := by decide +kernel
theorem dL_hissOf_13 : decode cL_hissOf 13 = .ok (.astore 4, 2) := by decide +kernel
theorem dL_hissOf_15 : decode cL_hissOf 15 = .ok (.iconst 1, 1) := by decide +kernel
theorem dL_hissOf_16 : decode cL_hissOf 16 = .ok (.ireturn, 1) := by decide +kernel
theorem dL_hissOf_17 : decode cL_hissOf 17 = .ok (.astore 4, 2) := by decide +kernel
theorem dL_hissOf_19 : decode cL_hissOf 19 = .ok (.iconst 2, 1) := by decide +kernel
theorem dL_hissOf_20 : decode cL_hissOf 20 = .ok (.ireturn, 1) := by decide +kernel
theorem dL_hissOf_21 : decode cL_hissOf 21 = .ok (.iconst 0, 1) := by decide +kernel
theorem dL_hissOf_22 : decode cL_hissOf 22 = .ok (.ireturn, 1) := by decide +kernel
set_option maxRecDepth 20000 in
theorem ggL_gateOf_X3_gateOf : GoodIn wsL_gateOf wsX3_gateOf := goodIn_ca (goodIn_r _ [6, 7, 8, 9, 10, 11, 12, 5, 13, 14, 15, 16, 17, 18, 19, 20, 21, 22, 23, 24, 25, 26, 27, 28, 29, 30, 31, 32, 33, 34, 35, 36, 37, 38] (by decide +kernel) (by decide +kernel)) (goodIn_sub (fun _ h => List.mem_cons_of_mem _ (List.mem_append_right _ h)) (by decide +kernel))
set_option maxRecDepth 20000 in
theorem gL_gateOf_X3_gateOf : GoodIn wsL_gateOf (wsV RL 51 RX3 yX3_gateOf wsX3_gateOf) := goodIn_app (goodIn_of _ (by decide +kernel)) ggL_gateOf_X3_gateOf
theorem dL_gateOf_0 : decode cL_gateOf 0 = .ok (.aload_n 2, 1) := by decide +kernel
theorem dL_gateOf_1 : decode cL_gateOf 1 = .ok (.iconst 0, 1) := by decide +kernel
theorem dL_gateOf_2 : decode cL_gateOf 2 = .ok (.aload_n 0, 1) := by decide +kernel
theorem dL_gateOf_3 : decode cL_gateOf 3 = .ok (.iload_n 1, 1) := by decide +kernel
theorem dL_gateOf_4 : decode cL_gateOf 4 = .ok (.invokevirtual 51, 3) := by decide +kernel
theorem dL_gateOf_7 : decode cL_gateOf 7 = .ok (.i2l, 1) := by decide +kernel
theorem dL_gateOf_8 : decode cL_gateOf 8 = .ok (.lastore, 1) := by decide +kernel
theorem dL_gateOf_9 : decode cL_gateOf 9 = .ok (.goto 6, 3) := by decide +kernel
theorem dL_gateOf_12 : decode cL_gateOf 12 = .ok (.astore_n 3, 1) := by decide +kernel
theorem dL_gateOf_13 : decode cL_gateOf 13 = .ok (.iconst 1, 1) := by decide +kernel
theorem dL_gateOf_14 : decode cL_gateOf 14 = .ok (.ireturn, 1) := by decide +kernel
theorem dL_gateOf_15 : decode cL_gateOf 15 = .ok (.iconst 0, 1) := by decide +kernel
theorem dL_gateOf_16 : decode cL_gateOf 16 = .ok (.ireturn, 1) := by decide +kernel
set_option maxRecDepth 20000 in
theorem ggL_temperOf_X3_temperOf : GoodIn wsL_temperOf wsX3_temperOf := goodIn_ca (goodIn_r _ [6, 7, 8, 9, 10, 11, 12, 5, 13, 14, 15, 16, 17, 18, 19, 20, 21, 22, 23, 24, 25, 26, 27, 28, 29, 30, 31, 32, 33, 34, 35, 36, 37, 38] (by decide +kernel) (by decide +kernel)) (goodIn_sub (fun _ h => List.mem_cons_of_mem _ (List.mem_append_right _ h)) (by decide +kernel))
set_option maxRecDepth 20000 in
theorem gL_temperOf_X3_temperOf : GoodIn wsL_temperOf (wsV RL 54 RX3 yX3_temperOf wsX3_temperOf) := goodIn_app (goodIn_of _ (by decide +kernel)) ggL_temperOf_X3_temperOf
theorem dL_temperOf_0 : decode cL_temperOf 0 = .ok (.aload_n 2, 1) := by decide +kernel
theorem dL_temperOf_1 : decode cL_temperOf 1 = .ok (.iconst 0, 1) := by decide +kernel
theorem dL_temperOf_2 : decode cL_temperOf 2 = .ok (.aload_n 0, 1) := by decide +kernel
theorem dL_temperOf_3 : decode cL_temperOf 3 = .ok (.iload_n 1, 1) := by decide +kernel
theorem dL_temperOf_4 : decode cL_temperOf 4 = .ok (.invokevirtual 54, 3) := by decide +kernel
theorem dL_temperOf_7 : decode cL_temperOf 7 = .ok (.i2l, 1) := by decide +kernel
theorem dL_temperOf_8 : decode cL_temperOf 8 = .ok (.lastore, 1) := by decide +kernel
theorem dL_temperOf_9 : decode cL_temperOf 9 = .ok (.goto 6, 3) := by decide +kernel
theorem dL_temperOf_12 : decode cL_temperOf 12 = .ok (.astore_n 3, 1) := by decide +kernel
theorem dL_temperOf_13 : decode cL_temperOf 13 = .ok (.iconst 1, 1) := by decide +kernel
theorem dL_temperOf_14 : decode cL_temperOf 14 = .ok (.ireturn, 1) := by decide +kernel
theorem dL_temperOf_15 : decode cL_temperOf 15 = .ok (.iconst 0, 1) := by decide +kernel
theorem dL_temperOf_16 : decode cL_temperOf 16 = .ok (.ireturn, 1) := by decide +kernel
set_option maxRecDepth 20000 in
theorem ggL_calmFor_X3_calmFor : GoodIn wsL_calmFor wsX3_calmFor := goodIn_ca (goodIn_r _ [6, 7, 8, 9, 10, 11, 12, 5, 13, 14, 15, 16, 17, 18, 19, 20, 21, 22, 23, 24, 25, 26, 27, 28, 29, 30, 31, 32, 33, 34, 35, 36, 37, 38] (by decide +kernel) (by decide +kernel)) (goodIn_sub (fun _ h => List.mem_cons_of_mem _ (List.mem_append_right _ h)) (by decide +kernel))
set_option maxRecDepth 20000 in
theorem gL_calmFor_X3_calmFor : GoodIn wsL_calmFor (wsV RL 57 RX3 yX3_calmFor wsX3_calmFor) := goodIn_app (goodIn_of _ (by decide +kernel)) ggL_calmFor_X3_calmFor
theorem dL_calmFor_0 : decode cL_calmFor 0 = .ok (.aload_n 2, 1) := by decide +kernel
theorem dL_calmFor_1 : decode cL_calmFor 1 = .ok (.iconst 0, 1) := by decide +kernel
theorem dL_calmFor_2 : decode cL_calmFor 2 = .ok (.aload_n 0, 1) := by decide +kernel
theorem dL_calmFor_3 : decode cL_calmFor 3 = .ok (.iload_n 1, 1) := by decide +kernel
theorem dL_calmFor_4 : decode cL_calmFor 4 = .ok (.invokevirtual 57, 3) := by decide +kernel
theorem dL_calmFor_7 : decode cL_calmFor 7 = .ok (.i2l, 1) := by decide +kernel
theorem dL_calmFor_8 : decode cL_calmFor 8 = .ok (.lastore, 1) := by decide +kernel
theorem dL_calmFor_9 : decode cL_calmFor 9 = .ok (.goto 6, 3) := by decide +kernel
theorem dL_calmFor_12 : decode cL_calmFor 12 = .ok (.astore_n 3, 1) := by decide +kernel
theorem dL_calmFor_13 : decode cL_calmFor 13 = .ok (.iconst 1, 1) := by decide +kernel
theorem dL_calmFor_14 : decode cL_calmFor 14 = .ok (.ireturn, 1) := by decide +kernel
theorem dL_calmFor_15 : decode cL_calmFor 15 = .ok (.iconst 0, 1) := by decide +kernel
theorem dL_calmFor_16 : decode cL_calmFor 16 = .ok (.ireturn, 1) := by decide +kernel
set_option maxRecDepth 20000 in
theorem ggL_eatenBy_X3_eatenBy : GoodIn wsL_eatenBy wsX3_eatenBy := goodIn_ca (goodIn_r _ [6, 7, 8, 9, 10, 11, 12, 5, 13, 14, 15, 16, 17, 18, 19, 20, 21, 22, 23, 24, 25, 26, 27, 28, 29, 30, 31, 32, 33, 34, 35, 36, 37, 38] (by decide +kernel) (by decide +kernel)) (goodIn_sub (fun _ h => List.mem_cons_of_mem _ (List.mem_append_right _ h)) (by decide +kernel))
set_option maxRecDepth 20000 in
theorem gL_eatenBy_X3_eatenBy : GoodIn wsL_eatenBy (wsV RL 60 RX3 yX3_eatenBy wsX3_eatenBy) := goodIn_app (goodIn_of _ (by decide +kernel)) ggL_eatenBy_X3_eatenBy
theorem dL_eatenBy_0 : decode cL_eatenBy 0 = .ok (.aload_n 2, 1) := by decide +kernel
theorem dL_eatenBy_1 : decode cL_eatenBy 1 = .ok (.iconst 0, 1) := by decide +kernel
theorem dL_eatenBy_2 : decode cL_eatenBy 2 = .ok (.aload_n 0, 1) := by decide +kernel
theorem dL_eatenBy_3 : decode cL_eatenBy 3 = .ok (.iload_n 1, 1) := by decide +kernel
theorem dL_eatenBy_4 : decode cL_eatenBy 4 = .ok (.invokevirtual 60, 3) := by decide +kernel
theorem dL_eatenBy_7 : decode cL_eatenBy 7 = .ok (.i2l, 1) := by decide +kernel
theorem dL_eatenBy_8 : decode cL_eatenBy 8 = .ok (.lastore, 1) := by decide +kernel
theorem dL_eatenBy_9 : decode cL_eatenBy 9 = .ok (.goto 6, 3) := by decide +kernel
theorem dL_eatenBy_12 : decode cL_eatenBy 12 = .ok (.astore_n 3, 1) := by decide +kernel
theorem dL_eatenBy_13 : decode cL_eatenBy 13 = .ok (.iconst 1, 1) := by decide +kernel
theorem dL_eatenBy_14 : decode cL_eatenBy 14 = .ok (.ireturn, 1) := by decide +kernel
theorem dL_eatenBy_15 : decode cL_eatenBy 15 = .ok (.iconst 0, 1) := by decide +kernel
theorem dL_eatenBy_16 : decode cL_eatenBy 16 = .ok (.ireturn, 1) := by decide +kernel
set_option maxRecDepth 20000 in
theorem ggL_passedBy_X3_passedBy : GoodIn wsL_passedBy wsX3_passedBy := goodIn_ca (goodIn_r _ [6, 7, 8, 9, 10, 11, 12, 5, 13, 14, 15, 16, 17, 18, 19, 20, 21, 22, 23, 24, 25, 26, 27, 28, 29, 30, 31, 32, 33, 34, 35, 36, 37, 38, 39] (by decide +kernel) (by decide +kernel)) (goodIn_sub (fun _ h => List.mem_cons_of_mem _ (List.mem_append_right _ h)) (by decide +kernel))
set_option maxRecDepth 20000 in
theorem gL_passedBy_X3_passedBy : GoodIn wsL_passedBy (wsV RL 63 RX3 yX3_passedBy wsX3_passedBy) := goodIn_app (goodIn_of _ (by decide +kernel)) ggL_passedBy_X3_passedBy
theorem dL_passedBy_0 : decode cL_passedBy 0 = .ok (.aload_n 2, 1) := by decide +kernel
theorem dL_passedBy_1 : decode cL_passedBy 1 = .ok (.iconst 0, 1) := by decide +kernel
theorem dL_passedBy_2 : decode cL_passedBy 2 = .ok (.aload_n 0, 1) := by decide +kernel
theorem dL_passedBy_3 : decode cL_passedBy 3 = .ok (.iload_n 1, 1) := by decide +kernel
theorem dL_passedBy_4 : decode cL_passedBy 4 = .ok (.invokevirtual 63, 3) := by decide +kernel
theorem dL_passedBy_7 : decode cL_passedBy 7 = .ok (.i2l, 1) := by decide +kernel
theorem dL_passedBy_8 : decode cL_passedBy 8 = .ok (.lastore, 1) := by decide +kernel
theorem dL_passedBy_9 : decode cL_passedBy 9 = .ok (.goto 6, 3) := by decide +kernel
theorem dL_passedBy_12 : decode cL_passedBy 12 = .ok (.astore_n 3, 1) := by decide +kernel
theorem dL_passedBy_13 : decode cL_passedBy 13 = .ok (.iconst 1, 1) := by decide +kernel
theorem dL_passedBy_14 : decode cL_passedBy 14 = .ok (.ireturn, 1) := by decide +kernel
theorem dL_passedBy_15 : decode cL_passedBy 15 = .ok (.iconst 0, 1) := by decide +kernel
theorem dL_passedBy_16 : decode cL_passedBy 16 = .ok (.ireturn, 1) := by decide +kernel
set_option maxRecDepth 20000 in
theorem ggL_isInFarm_X3_isInFarm : GoodIn wsL_isInFarm wsX3_isInFarm := goodIn_ca (goodIn_r _ [6, 7, 8, 9, 10, 5, 11, 12, 13, 14, 15, 16, 17, 18, 19, 20, 21, 22, 23, 24, 25, 26, 27, 28, 29, 30, 31, 32, 33, 34, 35, 36, 37, 38, 39, 40, 41, 42, 43, 44, 45, 46] (by decide +kernel) (by decide +kernel)) (goodIn_sub (fun _ h => List.mem_cons_of_mem _ (List.mem_append_right _ h)) (by decide +kernel))
set_option maxRecDepth 20000 in
theorem gL_isInFarm_X3_isInFarm : GoodIn wsL_isInFarm (wsV RL 66 RX3 yX3_isInFarm wsX3_isInFarm) := goodIn_app (goodIn_of _ (by decide +kernel)) ggL_isInFarm_X3_isInFarm
theorem dL_isInFarm_0 : decode cL_isInFarm 0 = .ok (.aload_n 2, 1) := by decide +kernel
theorem dL_isInFarm_1 : decode cL_isInFarm 1 = .ok (.iconst 0, 1) := by decide +kernel
theorem dL_isInFarm_2 : decode cL_isInFarm 2 = .ok (.aload_n 0, 1) := by decide +kernel
theorem dL_isInFarm_3 : decode cL_isInFarm 3 = .ok (.iload_n 1, 1) := by decide +kernel
theorem dL_isInFarm_4 : decode cL_isInFarm 4 = .ok (.invokevirtual 66, 3) := by decide +kernel
theorem dL_isInFarm_7 : decode cL_isInFarm 7 = .ok (.ifCond .eq 7, 3) := by decide +kernel
theorem dL_isInFarm_10 : decode cL_isInFarm 10 = .ok (.lconst 1, 1) := by decide +kernel
theorem dL_isInFarm_11 : decode cL_isInFarm 11 = .ok (.goto 4, 3) := by decide +kernel
theorem dL_isInFarm_14 : decode cL_isInFarm 14 = .ok (.lconst 0, 1) := by decide +kernel
theorem dL_isInFarm_15 : decode cL_isInFarm 15 = .ok (.lastore, 1) := by decide +kernel
theorem dL_isInFarm_16 : decode cL_isInFarm 16 = .ok (.goto 6, 3) := by decide +kernel
theorem dL_isInFarm_19 : decode cL_isInFarm 19 = .ok (.astore_n 3, 1) := by decide +kernel
theorem dL_isInFarm_20 : decode cL_isInFarm 20 = .ok (.iconst 1, 1) := by decide +kernel
theorem dL_isInFarm_21 : decode cL_isInFarm 21 = .ok (.ireturn, 1) := by decide +kernel
theorem dL_isInFarm_22 : decode cL_isInFarm 22 = .ok (.iconst 0, 1) := by decide +kernel
theorem dL_isInFarm_23 : decode cL_isInFarm 23 = .ok (.ireturn, 1) := by decide +kernel
set_option maxRecDepth 20000 in
theorem ggL_cornsOf_X3_cornsOf : GoodIn wsL_cornsOf wsX3_cornsOf := goodIn_ca (goodIn_r _ [6, 7, 8, 9, 10, 11, 12, 5, 13, 14, 15, 16, 17, 18, 19, 20, 21, 22, 23, 24, 25, 26, 27, 28, 29, 30, 31, 32, 33, 34, 35, 36, 37, 38, 39] (by decide +kernel) (by decide +kernel)) (goodIn_sub (fun _ h => List.mem_cons_of_mem _ (List.mem_append_right _ h)) (by decide +kernel))
set_option maxRecDepth 20000 in
theorem gL_cornsOf_X3_cornsOf : GoodIn wsL_cornsOf (wsV RL 70 RX3 yX3_cornsOf wsX3_cornsOf) := goodIn_app (goodIn_of _ (by decide +kernel)) ggL_cornsOf_X3_cornsOf
theorem dL_cornsOf_0 : decode cL_cornsOf 0 = .ok (.aload_n 2, 1) := by decide +kernel
theorem dL_cornsOf_1 : decode cL_cornsOf 1 = .ok (.iconst 0, 1) := by decide +kernel
theorem dL_cornsOf_2 : decode cL_cornsOf 2 = .ok (.aload_n 0, 1) := by decide +kernel
theorem dL_cornsOf_3 : decode cL_cornsOf 3 = .ok (.iload_n 1, 1) := by decide +kernel
theorem dL_cornsOf_4 : decode cL_cornsOf 4 = .ok (.invokevirtual 70, 3) := by decide +kernel
theorem dL_cornsOf_7 : decode cL_cornsOf 7 = .ok (.i2l, 1) := by decide +kernel
theorem dL_cornsOf_8 : decode cL_cornsOf 8 = .ok (.lastore, 1) := by decide +kernel
theorem dL_cornsOf_9 : decode cL_cornsOf 9 = .ok (.goto 6, 3) := by decide +kernel
theorem dL_cornsOf_12 : decode cL_cornsOf 12 = .ok (.astore_n 3, 1) := by decide +kernel
theorem dL_cornsOf_13 : decode cL_cornsOf 13 = .ok (.iconst 1, 1) := by decide +kernel
theorem dL_cornsOf_14 : decode cL_cornsOf 14 = .ok (.ireturn, 1) := by decide +kernel
theorem dL_cornsOf_15 : decode cL_cornsOf 15 = .ok (.iconst 0, 1) := by decide +kernel
theorem dL_cornsOf_16 : decode cL_cornsOf 16 = .ok (.ireturn, 1) := by decide +kernel
set_option maxRecDepth 20000 in
theorem ggL_nerveOf_X3_nerveOf : GoodIn wsL_nerveOf wsX3_nerveOf := goodIn_ca (goodIn_r _ [6, 7, 8, 9, 10, 11, 12, 5, 13, 14, 15, 16, 17, 18, 19, 20, 21, 22, 23, 24, 25, 26, 27, 28, 29, 30, 31, 32, 33, 34, 35, 36, 37, 38, 39] (by decide +kernel) (by decide +kernel)) (goodIn_sub (fun _ h => List.mem_cons_of_mem _ (List.mem_append_right _ h)) (by decide +kernel))
set_option maxRecDepth 20000 in
theorem gL_nerveOf_X3_nerveOf : GoodIn wsL_nerveOf (wsV RL 73 RX3 yX3_nerveOf wsX3_nerveOf) := goodIn_app (goodIn_of _ (by decide +kernel)) ggL_nerveOf_X3_nerveOf
theorem dL_nerveOf_0 : decode cL_nerveOf 0 = .ok (.aload_n 2, 1) := by decide +kernel
theorem dL_nerveOf_1 : decode cL_nerveOf 1 = .ok (.iconst 0, 1) := by decide +kernel
theorem dL_nerveOf_2 : decode cL_nerveOf 2 = .ok (.aload_n 0, 1) := by decide +kernel
theorem dL_nerveOf_3 : decode cL_nerveOf 3 = .ok (.iload_n 1, 1) := by decide +kernel
theorem dL_nerveOf_4 : decode cL_nerveOf 4 = .ok (.invokevirtual 73, 3) := by decide +kernel
theorem dL_nerveOf_7 : decode cL_nerveOf 7 = .ok (.i2l, 1) := by decide +kernel
theorem dL_nerveOf_8 : decode cL_nerveOf 8 = .ok (.lastore, 1) := by decide +kernel
theorem dL_nerveOf_9 : decode cL_nerveOf 9 = .ok (.goto 6, 3) := by decide +kernel
theorem dL_nerveOf_12 : decode cL_nerveOf 12 = .ok (.astore_n 3, 1) := by decide +kernel
theorem dL_nerveOf_13 : decode cL_nerveOf 13 = .ok (.iconst 1, 1) := by decide +kernel
theorem dL_nerveOf_14 : decode cL_nerveOf 14 = .ok (.ireturn, 1) := by decide +kernel
theorem dL_nerveOf_15 : decode cL_nerveOf 15 = .ok (.iconst 0, 1) := by decide +kernel
theorem dL_nerveOf_16 : decode cL_nerveOf 16 = .ok (.ireturn, 1) := by decide +kernel
set_option maxRecDepth 20000 in
theorem ggL_retreatOf_X3_retreatOf : GoodIn wsL_retreatOf wsX3_retreatOf := goodIn_ca (goodIn_r _ [6, 7, 8, 9, 10, 11, 12, 5, 13, 14, 15, 16, 17, 18, 19, 20, 21, 22, 23, 24, 25, 26, 27, 28, 29, 30, 31, 32, 33, 34, 35, 36, 37, 38, 39] (by decide +kernel) (by decide +kernel)) (goodIn_sub (fun _ h => List.mem_cons_of_mem _ (List.mem_append_right _ h)) (by decide +kernel))
set_option maxRecDepth 20000 in
theorem gL_retreatOf_X3_retreatOf : GoodIn wsL_retreatOf (wsV RL 76 RX3 yX3_retreatOf wsX3_retreatOf) := goodIn_app (goodIn_of _ (by decide +kernel)) ggL_retreatOf_X3_retreatOf
theorem dL_retreatOf_0 : decode cL_retreatOf 0 = .ok (.aload_n 2, 1) := by decide +kernel
theorem dL_retreatOf_1 : decode cL_retreatOf 1 = .ok (.iconst 0, 1) := by decide +kernel
theorem dL_retreatOf_2 : decode cL_retreatOf 2 = .ok (.aload_n 0, 1) := by decide +kernel
theorem dL_retreatOf_3 : decode cL_retreatOf 3 = .ok (.iload_n 1, 1) := by decide +kernel
theorem dL_retreatOf_4 : decode cL_retreatOf 4 = .ok (.invokevirtual 76, 3) := by decide +kernel
theorem dL_retreatOf_7 : decode cL_retreatOf 7 = .ok (.i2l, 1) := by decide +kernel
theorem dL_retreatOf_8 : decode cL_retreatOf 8 = .ok (.lastore, 1) := by decide +kernel
theorem dL_retreatOf_9 : decode cL_retreatOf 9 = .ok (.goto 6, 3) := by decide +kernel
theorem dL_retreatOf_12 : decode cL_retreatOf 12 = .ok (.astore_n 3, 1) := by decide +kernel
theorem dL_retreatOf_13 : decode cL_retreatOf 13 = .ok (.iconst 1, 1) := by decide +kernel
theorem dL_retreatOf_14 : decode cL_retreatOf 14 = .ok (.ireturn, 1) := by decide +kernel
theorem dL_retreatOf_15 : decode cL_retreatOf 15 = .ok (.iconst 0, 1) := by decide +kernel
theorem dL_retreatOf_16 : decode cL_retreatOf 16 = .ok (.ireturn, 1) := by decide +kernel
set_option maxRecDepth 20000 in
theorem ggL_hissAt_X3_hissAt : GoodIn wsL_hissAt wsX3_hissAt := goodIn_ca (goodIn_r _ [6, 7, 8, 9, 10, 5, 11, 12, 13, 14, 15, 16, 17, 18, 19, 20, 21, 22, 23, 24, 25, 26, 27, 28, 29, 30, 31, 32, 33, 34, 35, 36, 37, 38, 39, 40, 41, 42, 43, 44, 45, 46, 47, 48, 49, 50, 51, 52, 53, 54, 55, 56, 57, 58, 59, 60, 61, 62, 63, 64, 65, 66, 67, 68, 69, 70, 71, 72, 73, 74, 75, 76, 77, 78, 79, 80, 81, 82, 83] (by decide +kernel) (by decide +kernel)) (goodIn_sub (fun _ h => List.mem_cons_of_mem _ (List.mem_append_right _ h)) (by decide +kernel))
set_option maxRecDepth 20000 in
theorem gL_hissAt_X3_hissAt : GoodIn wsL_hissAt (wsV RL 79 RX3 yX3_hissAt wsX3_hissAt) := goodIn_app (goodIn_of _ (by decide +kernel)) ggL_hissAt_X3_hissAt
theorem dL_hissAt_0 : decode cL_hissAt 0 = .ok (.aload_n 2, 1) := by decide +kernel
theorem dL_hissAt_1 : decode cL_hissAt 1 = .ok (.iconst 0, 1) := by decide +kernel
theorem dL_hissAt_2 : decode cL_hissAt 2 = .ok (.aload_n 0, 1) := by decide +kernel
theorem dL_hissAt_3 : decode cL_hissAt 3 = .ok (.iload_n 1, 1) := by decide +kernel
theorem dL_hissAt_4 : decode cL_hissAt 4 = .ok (.invokevirtual 79, 3) := by decide +kernel
theorem dL_hissAt_7 : decode cL_hissAt 7 = .ok (.i2l, 1) := by decide +kernel
theorem dL_hissAt_8 : decode cL_hissAt 8 = .ok (.lastore, 1) := by decide +kernel
theorem dL_hissAt_9 : decode cL_hissAt 9 = .ok (.goto 6, 3) := by decide +kernel
theorem dL_hissAt_12 : decode cL_hissAt 12 = .ok (.astore_n 3, 1) := by decide +kernel
theorem dL_hissAt_13 : decode cL_hissAt 13 = .ok (.iconst 1, 1) := by decide +kernel
theorem dL_hissAt_14 : decode cL_hissAt 14 = .ok (.ireturn, 1) := by decide +kernel
theorem dL_hissAt_15 : decode cL_hissAt 15 = .ok (.iconst 0, 1) := by decide +kernel
theorem dL_hissAt_16 : decode cL_hissAt 16 = .ok (.ireturn, 1) := by decide +kernel
set_option maxRecDepth 20000 in
theorem ggL_gradeFor_X3_gradeFor : GoodIn wsL_gradeFor wsX3_gradeFor := goodIn_ca (goodIn_r _ [6, 7, 8, 9, 10, 5, 11, 12, 13, 14, 15, 16, 17, 18, 19, 20, 21, 22, 23, 24, 25, 26, 27, 28, 29, 30, 31, 32, 33, 34, 35, 36, 37, 38, 39, 40, 41, 42, 43, 44, 45, 46, 47, 48, 49, 50, 51, 52, 53, 54, 55, 56, 57, 58, 59, 60, 61, 62, 63, 64, 65, 66, 67, 68, 69, 70, 71, 72, 73, 74, 75, 76, 77, 78, 79, 80, 81, 82, 83, 84, 85, 86] (by decide +kernel) (by decide +kernel)) (goodIn_sub (fun _ h => List.mem_cons_of_mem _ (List.mem_append_right _ h)) (by decide +kernel))
set_option maxRecDepth 20000 in
theorem gL_gradeFor_X3_gradeFor : GoodIn wsL_gradeFor (wsV RL 82 RX3 yX3_gradeFor wsX3_gradeFor) := goodIn_app (goodIn_of _ (by decide +kernel)) ggL_gradeFor_X3_gradeFor
theorem dL_gradeFor_0 : decode cL_gradeFor 0 = .ok (.aload_n 2, 1) := by decide +kernel
theorem dL_gradeFor_1 : decode cL_gradeFor 1 = .ok (.iconst 0, 1) := by decide +kernel
theorem dL_gradeFor_2 : decode cL_gradeFor 2 = .ok (.aload_n 0, 1) := by decide +kernel
theorem dL_gradeFor_3 : decode cL_gradeFor 3 = .ok (.iload_n 1, 1) := by decide +kernel
theorem dL_gradeFor_4 : decode cL_gradeFor 4 = .ok (.invokevirtual 82, 3) := by decide +kernel
theorem dL_gradeFor_7 : decode cL_gradeFor 7 = .ok (.i2l, 1) := by decide +kernel
theorem dL_gradeFor_8 : decode cL_gradeFor 8 = .ok (.lastore, 1) := by decide +kernel
theorem dL_gradeFor_9 : decode cL_gradeFor 9 = .ok (.goto 6, 3) := by decide +kernel
theorem dL_gradeFor_12 : decode cL_gradeFor 12 = .ok (.astore_n 3, 1) := by decide +kernel
theorem dL_gradeFor_13 : decode cL_gradeFor 13 = .ok (.iconst 1, 1) := by decide +kernel
theorem dL_gradeFor_14 : decode cL_gradeFor 14 = .ok (.ireturn, 1) := by decide +kernel
theorem dL_gradeFor_15 : decode cL_gradeFor 15 = .ok (.iconst 0, 1) := by decide +kernel
theorem dL_gradeFor_16 : decode cL_gradeFor 16 = .ok (.ireturn, 1) := by decide +kernel
set_option maxRecDepth 20000 in
theorem ggL_dares_X3_dares : GoodIn wsL_dares wsX3_dares := goodIn_ca (goodIn_r _ [6, 7, 8, 9, 10, 11, 12, 5, 13, 14, 15, 16, 17, 18, 19, 20, 21, 22, 23, 24, 25, 26, 27, 28, 29, 30, 31, 32, 33, 34, 35, 36, 37, 38, 39, 40, 41, 42, 43, 44, 45, 46, 47, 48, 49, 50, 51, 52, 53, 54, 55, 56, 57, 58, 59, 60, 61, 62, 63, 64, 65, 66, 67, 68, 69, 70, 71, 72, 73, 74, 75, 76, 77, 78, 79, 80, 81, 82, 83, 84, 85, 86, 87, 88] (by decide +kernel) (by decide +kernel)) (goodIn_sub (fun _ h => List.mem_cons_of_mem _ (List.mem_append_right _ h)) (by decide +kernel))
set_option maxRecDepth 20000 in
theorem gL_dares_X3_dares : GoodIn wsL_dares (wsV RL 85 RX3 yX3_dares wsX3_dares) := goodIn_app (goodIn_of _ (by decide +kernel)) ggL_dares_X3_dares
theorem dL_dares_0 : decode cL_dares 0 = .ok (.aload_n 2, 1) := by decide +kernel
theorem dL_dares_1 : decode cL_dares 1 = .ok (.iconst 0, 1) := by decide +kernel
theorem dL_dares_2 : decode cL_dares 2 = .ok (.aload_n 0, 1) := by decide +kernel
theorem dL_dares_3 : decode cL_dares 3 = .ok (.iload_n 1, 1) := by decide +kernel
theorem dL_dares_4 : decode cL_dares 4 = .ok (.invokevirtual 85, 3) := by decide +kernel
theorem dL_dares_7 : decode cL_dares 7 = .ok (.ifCond .eq 7, 3) := by decide +kernel
theorem dL_dares_10 : decode cL_dares 10 = .ok (.lconst 1, 1) := by decide +kernel
theorem dL_dares_11 : decode cL_dares 11 = .ok (.goto 4, 3) := by decide +kernel
theorem dL_dares_14 : decode cL_dares 14 = .ok (.lconst 0, 1) := by decide +kernel
theorem dL_dares_15 : decode cL_dares 15 = .ok (.lastore, 1) := by decide +kernel
theorem dL_dares_16 : decode cL_dares 16 = .ok (.goto 6, 3) := by decide +kernel
theorem dL_dares_19 : decode cL_dares 19 = .ok (.astore_n 3, 1) := by decide +kernel
theorem dL_dares_20 : decode cL_dares 20 = .ok (.iconst 1, 1) := by decide +kernel
theorem dL_dares_21 : decode cL_dares 21 = .ok (.ireturn, 1) := by decide +kernel
theorem dL_dares_22 : decode cL_dares 22 = .ok (.iconst 0, 1) := by decide +kernel
theorem dL_dares_23 : decode cL_dares 23 = .ok (.ireturn, 1) := by decide +kernel
set_option maxRecDepth 20000 in
theorem ggL_beatsUntilIn_X3_beatsUntilIn : GoodIn wsL_beatsUntilIn wsX3_beatsUntilIn := goodIn_ca (goodIn_r _ [6, 7, 8, 9, 10, 11, 5, 12, 13, 14, 15, 16, 17, 18, 19, 20, 21, 22, 23, 24, 25, 26, 27, 28, 29, 30, 31, 32, 33, 34, 35, 36, 37, 38, 39, 40, 41, 42, 43, 44, 45, 46, 47, 48, 49, 50, 51, 52, 53, 54, 55, 56, 57, 58, 59, 60, 61, 62, 63, 64, 65, 66, 67, 68, 69, 70, 71, 72, 73, 74, 75, 76, 77, 78, 79, 80, 81, 82, 83, 84, 85, 86, 87, 88, 89, 90, 91, 92, 93, 94, 95, 96, 97, 98, 99, 100, 101, 102, 103, 104, 105, 106, 107, 108, 109, 110, 111, 112, 113, 114, 115, 116, 117, 118, 119, 120, 121, 122, 123, 124, 125, 126, 127, 128, 129, 130, 131, 132, 133, 134, 135, 136, 137, 138, 139, 140, 141, 142, 143, 144, 145, 146, 147, 148, 149, 150, 151, 152, 153, 154, 155, 156, 157, 158, 159, 160, 161, 162] (by decide +kernel) (by decide +kernel)) (goodIn_sub (fun _ h => List.mem_cons_of_mem _ (List.mem_append_right _ h)) (by decide +kernel))
set_option maxRecDepth 20000 in
theorem gL_beatsUntilIn_X3_beatsUntilIn : GoodIn wsL_beatsUntilIn (wsV RL 88 RX3 yX3_beatsUntilIn wsX3_beatsUntilIn) := goodIn_app (goodIn_of _ (by decide +kernel)) ggL_beatsUntilIn_X3_beatsUntilIn
theorem dL_beatsUntilIn_0 : decode cL_beatsUntilIn 0 = .ok (.aload_n 2, 1) := by decide +kernel
theorem dL_beatsUntilIn_1 : decode cL_beatsUntilIn 1 = .ok (.iconst 0, 1) := by decide +kernel
theorem dL_beatsUntilIn_2 : decode cL_beatsUntilIn 2 = .ok (.aload_n 0, 1) := by decide +kernel
theorem dL_beatsUntilIn_3 : decode cL_beatsUntilIn 3 = .ok (.iload_n 1, 1) := by decide +kernel
theorem dL_beatsUntilIn_4 : decode cL_beatsUntilIn 4 = .ok (.invokevirtual 88, 3) := by decide +kernel
theorem dL_beatsUntilIn_7 : decode cL_beatsUntilIn 7 = .ok (.i2l, 1) := by decide +kernel
theorem dL_beatsUntilIn_8 : decode cL_beatsUntilIn 8 = .ok (.lastore, 1) := by decide +kernel
theorem dL_beatsUntilIn_9 : decode cL_beatsUntilIn 9 = .ok (.goto 6, 3) := by decide +kernel
theorem dL_beatsUntilIn_12 : decode cL_beatsUntilIn 12 = .ok (.astore_n 3, 1) := by decide +kernel
theorem dL_beatsUntilIn_13 : decode cL_beatsUntilIn 13 = .ok (.iconst 1, 1) := by decide +kernel
theorem dL_beatsUntilIn_14 : decode cL_beatsUntilIn 14 = .ok (.ireturn, 1) := by decide +kernel
theorem dL_beatsUntilIn_15 : decode cL_beatsUntilIn 15 = .ok (.iconst 0, 1) := by decide +kernel
theorem dL_beatsUntilIn_16 : decode cL_beatsUntilIn 16 = .ok (.ireturn, 1) := by decide +kernel
set_option maxRecDepth 20000 in
theorem ggL_inFarmAfter_X3_inFarmAfter : GoodIn wsL_inFarmAfter wsX3_inFarmAfter := goodIn_ca (goodIn_r _ [6, 7, 8, 9, 10, 5, 11, 12, 13, 14, 15, 16, 17, 18, 19, 20, 21, 22, 23, 24, 25, 26, 27, 28, 29, 30, 31, 32, 33, 34, 35, 36, 37, 38, 39, 40, 41, 42, 43, 44, 45, 46, 47, 48, 49, 50, 51, 52, 53, 54, 55, 56, 57, 58, 59, 60, 61, 62, 63, 64, 65, 66, 67, 68, 69, 70, 71, 72, 73, 74, 75, 76, 77, 78, 79, 80, 81, 82, 83, 84, 85, 86, 87, 88, 89, 90, 91, 92, 93, 94, 95, 96, 97, 98, 99, 100, 101, 102, 103, 104, 105, 106, 107, 108, 109, 110, 111, 112, 113, 114, 115, 116, 117, 118, 119, 120, 121, 122, 123, 124, 125, 126, 127, 128, 129, 130, 131, 132, 133, 134, 135, 136, 137, 138, 139, 140, 141, 142, 143, 144, 145, 146, 147, 148, 149, 150, 151, 152, 153, 154, 155, 156, 157, 158, 159, 160, 161, 162, 163] (by decide +kernel) (by decide +kernel)) (goodIn_sub (fun _ h => List.mem_cons_of_mem _ (List.mem_append_right _ h)) (by decide +kernel))
set_option maxRecDepth 20000 in
theorem gL_inFarmAfter_X3_inFarmAfter : GoodIn wsL_inFarmAfter (wsV RL 91 RX3 yX3_inFarmAfter wsX3_inFarmAfter) := goodIn_app (goodIn_of _ (by decide +kernel)) ggL_inFarmAfter_X3_inFarmAfter
theorem dL_inFarmAfter_0 : decode cL_inFarmAfter 0 = .ok (.aload_n 2, 1) := by decide +kernel
theorem dL_inFarmAfter_1 : decode cL_inFarmAfter 1 = .ok (.iconst 0, 1) := by decide +kernel
theorem dL_inFarmAfter_2 : decode cL_inFarmAfter 2 = .ok (.aload_n 0, 1) := by decide +kernel
theorem dL_inFarmAfter_3 : decode cL_inFarmAfter 3 = .ok (.iload_n 1, 1) := by decide +kernel
theorem dL_inFarmAfter_4 : decode cL_inFarmAfter 4 = .ok (.invokevirtual 91, 3) := by decide +kernel
theorem dL_inFarmAfter_7 : decode cL_inFarmAfter 7 = .ok (.i2l, 1) := by decide +kernel
theorem dL_inFarmAfter_8 : decode cL_inFarmAfter 8 = .ok (.lastore, 1) := by decide +kernel
theorem dL_inFarmAfter_9 : decode cL_inFarmAfter 9 = .ok (.goto 6, 3) := by decide +kernel
theorem dL_inFarmAfter_12 : decode cL_inFarmAfter 12 = .ok (.astore_n 3, 1) := by decide +kernel
theorem dL_inFarmAfter_13 : decode cL_inFarmAfter 13 = .ok (.iconst 1, 1) := by decide +kernel
theorem dL_inFarmAfter_14 : decode cL_inFarmAfter 14 = .ok (.ireturn, 1) := by decide +kernel
theorem dL_inFarmAfter_15 : decode cL_inFarmAfter 15 = .ok (.iconst 0, 1) := by decide +kernel
theorem dL_inFarmAfter_16 : decode cL_inFarmAfter 16 = .ok (.ireturn, 1) := by decide +kernel
set_option maxRecDepth 20000 in
theorem ggL_cornsWanted_X3_cornsWanted : GoodIn wsL_cornsWanted wsX3_cornsWanted := goodIn_ca (goodIn_r _ [6, 7, 8, 9, 10, 11, 12, 13, 5, 14, 15, 16, 17, 18, 19, 20, 21, 22, 23, 24, 25, 26, 27, 28, 29, 30, 31, 32, 33, 34, 35, 36, 37, 38, 39, 40, 41, 42, 43, 44, 45, 46, 47, 48, 49, 50, 51, 52, 53, 54, 55, 56, 57, 58, 59, 60, 61, 62, 63, 64, 65, 66, 67, 68, 69, 70, 71, 72, 73, 74, 75, 76, 77, 78, 79, 80, 81, 82, 83, 84, 85, 86, 87, 88, 89, 90, 91, 92, 93, 94, 95, 96, 97, 98, 99, 100, 101, 102, 103, 104, 105, 106, 107, 108, 109, 110, 111, 112, 113, 114, 115, 116, 117, 118, 119, 120, 121, 122, 123, 124, 125, 126, 127, 128, 129, 130, 131, 132, 133, 134, 135, 136, 137, 138, 139, 140, 141, 142, 143, 144, 145, 146, 147, 148, 149, 150, 151, 152, 153, 154, 155, 156, 157, 158, 159, 160, 161, 162, 163] (by decide +kernel) (by decide +kernel)) (goodIn_sub (fun _ h => List.mem_cons_of_mem _ (List.mem_append_right _ h)) (by decide +kernel))
set_option maxRecDepth 20000 in
theorem gL_cornsWanted_X3_cornsWanted : GoodIn wsL_cornsWanted (wsV RL 94 RX3 yX3_cornsWanted wsX3_cornsWanted) := goodIn_app (goodIn_of _ (by decide +kernel)) ggL_cornsWanted_X3_cornsWanted
theorem dL_cornsWanted_0 : decode cL_cornsWanted 0 = .ok (.aload_n 2, 1) := by decide +kernel
theorem dL_cornsWanted_1 : decode cL_cornsWanted 1 = .ok (.iconst 0, 1) := by decide +kernel
theorem dL_cornsWanted_2 : decode cL_cornsWanted 2 = .ok (.aload_n 0, 1) := by decide +kernel
theorem dL_cornsWanted_3 : decode cL_cornsWanted 3 = .ok (.iload_n 1, 1) := by decide +kernel
theorem dL_cornsWanted_4 : decode cL_cornsWanted 4 = .ok (.invokevirtual 94, 3) := by decide +kernel
theorem dL_cornsWanted_7 : decode cL_cornsWanted 7 = .ok (.i2l, 1) := by decide +kernel
theorem dL_cornsWanted_8 : decode cL_cornsWanted 8 = .ok (.lastore, 1) := by decide +kernel
theorem dL_cornsWanted_9 : decode cL_cornsWanted 9 = .ok (.goto 6, 3) := by decide +kernel
theorem dL_cornsWanted_12 : decode cL_cornsWanted 12 = .ok (.astore_n 3, 1) := by decide +kernel
theorem dL_cornsWanted_13 : decode cL_cornsWanted 13 = .ok (.iconst 1, 1) := by decide +kernel
theorem dL_cornsWanted_14 : decode cL_cornsWanted 14 = .ok (.ireturn, 1) := by decide +kernel
theorem dL_cornsWanted_15 : decode cL_cornsWanted 15 = .ok (.iconst 0, 1) := by decide +kernel
theorem dL_cornsWanted_16 : decode cL_cornsWanted 16 = .ok (.ireturn, 1) := by decide +kernel
set_option maxRecDepth 20000 in
theorem ggL_bestToBribe_X3_bestToBribe : GoodIn wsL_bestToBribe wsX3_bestToBribe := goodIn_ca (goodIn_r _ [6, 7, 8, 9, 10, 11, 12, 13, 5, 14, 15, 16, 17, 18, 19, 20, 21, 22, 23, 24, 25, 26, 27, 28, 29, 30, 31, 32, 33, 34, 35, 36, 37, 38, 39, 40, 41, 42, 43, 44, 45, 46, 47, 48, 49, 50, 51, 52, 53, 54, 55, 56, 57, 58] (by decide +kernel) (by decide +kernel)) (goodIn_sub (fun _ h => List.mem_cons_of_mem _ (List.mem_append_right _ h)) (by decide +kernel))
set_option maxRecDepth 20000 in
theorem gL_bestToBribe_X3_bestToBribe : GoodIn wsL_bestToBribe (wsV RL 97 RX3 yX3_bestToBribe wsX3_bestToBribe) := goodIn_app (goodIn_of _ (by decide +kernel)) ggL_bestToBribe_X3_bestToBribe
theorem dL_bestToBribe_0 : decode cL_bestToBribe 0 = .ok (.aload_n 2, 1) := by decide +kernel
theorem dL_bestToBribe_1 : decode cL_bestToBribe 1 = .ok (.iconst 0, 1) := by decide +kernel
theorem dL_bestToBribe_2 : decode cL_bestToBribe 2 = .ok (.aload_n 0, 1) := by decide +kernel
theorem dL_bestToBribe_3 : decode cL_bestToBribe 3 = .ok (.iload_n 1, 1) := by decide +kernel
theorem dL_bestToBribe_4 : decode cL_bestToBribe 4 = .ok (.invokevirtual 97, 3) := by decide +kernel
theorem dL_bestToBribe_7 : decode cL_bestToBribe 7 = .ok (.i2l, 1) := by decide +kernel
theorem dL_bestToBribe_8 : decode cL_bestToBribe 8 = .ok (.lastore, 1) := by decide +kernel
theorem dL_bestToBribe_9 : decode cL_bestToBribe 9 = .ok (.goto 6, 3) := by decide +kernel
theorem dL_bestToBribe_12 : decode cL_bestToBribe 12 = .ok (.astore_n 3, 1) := by decide +kernel
theorem dL_bestToBribe_13 : decode cL_bestToBribe 13 = .ok (.iconst 1, 1) := by decide +kernel
theorem dL_bestToBribe_14 : decode cL_bestToBribe 14 = .ok (.ireturn, 1) := by decide +kernel
theorem dL_bestToBribe_15 : decode cL_bestToBribe 15 = .ok (.iconst 0, 1) := by decide +kernel
theorem dL_bestToBribe_16 : decode cL_bestToBribe 16 = .ok (.ireturn, 1) := by decide +kernel
set_option maxRecDepth 20000 in
theorem ggL_bribesWanted_X3_bribesWanted : GoodIn wsL_bribesWanted wsX3_bribesWanted := goodIn_ca (goodIn_r _ [6, 7, 8, 9, 10, 5, 11, 12, 13, 14, 15, 16, 17, 18, 19, 20, 21, 22, 23, 24, 25, 26, 27, 28, 29, 30, 31, 32, 33, 34, 35, 36, 37, 38, 39, 40, 41, 42, 43, 44, 45, 46, 47, 48, 49, 50, 51, 52, 53, 54, 55, 56, 57, 58, 59, 60, 61, 62, 63, 64, 65, 66, 67, 68, 69, 70, 71, 72, 73, 74, 75, 76, 77, 78, 79, 80, 81, 82, 83, 84, 85, 86, 87, 88, 89, 90, 91] (by decide +kernel) (by decide +kernel)) (goodIn_sub (fun _ h => List.mem_cons_of_mem _ (List.mem_append_right _ h)) (by decide +kernel))
set_option maxRecDepth 20000 in
theorem gL_bribesWanted_X3_bribesWanted : GoodIn wsL_bribesWanted (wsV RL 100 RX3 yX3_bribesWanted wsX3_bribesWanted) := goodIn_app (goodIn_of _ (by decide +kernel)) ggL_bribesWanted_X3_bribesWanted
theorem dL_bribesWanted_0 : decode cL_bribesWanted 0 = .ok (.aload_n 2, 1) := by decide +kernel
theorem dL_bribesWanted_1 : decode cL_bribesWanted 1 = .ok (.iconst 0, 1) := by decide +kernel
theorem dL_bribesWanted_2 : decode cL_bribesWanted 2 = .ok (.aload_n 0, 1) := by decide +kernel
theorem dL_bribesWanted_3 : decode cL_bribesWanted 3 = .ok (.iload_n 1, 1) := by decide +kernel
theorem dL_bribesWanted_4 : decode cL_bribesWanted 4 = .ok (.invokevirtual 100, 3) := by decide +kernel
theorem dL_bribesWanted_7 : decode cL_bribesWanted 7 = .ok (.i2l, 1) := by decide +kernel
theorem dL_bribesWanted_8 : decode cL_bribesWanted 8 = .ok (.lastore, 1) := by decide +kernel
theorem dL_bribesWanted_9 : decode cL_bribesWanted 9 = .ok (.goto 6, 3) := by decide +kernel
theorem dL_bribesWanted_12 : decode cL_bribesWanted 12 = .ok (.astore_n 3, 1) := by decide +kernel
theorem dL_bribesWanted_13 : decode cL_bribesWanted 13 = .ok (.iconst 1, 1) := by decide +kernel
theorem dL_bribesWanted_14 : decode cL_bribesWanted 14 = .ok (.ireturn, 1) := by decide +kernel
theorem dL_bribesWanted_15 : decode cL_bribesWanted 15 = .ok (.iconst 0, 1) := by decide +kernel
theorem dL_bribesWanted_16 : decode cL_bribesWanted 16 = .ok (.ireturn, 1) := by decide +kernel
set_option maxRecDepth 20000 in
theorem ggL_rankWanted_X3_rankWanted : GoodIn wsL_rankWanted wsX3_rankWanted := goodIn_ca (goodIn_r _ [6, 7, 8, 9, 10, 11, 12, 13, 5, 14, 15, 16, 17, 18, 19, 20, 21, 22, 23, 24, 25, 26, 27, 28, 29, 30, 31, 32, 33, 34, 35, 36, 37, 38, 39, 40, 41, 42, 43, 44, 45, 46, 47, 48, 49, 50, 51, 52, 53, 54, 55, 56, 57, 58, 59, 60, 61, 62, 63, 64, 65, 66, 67, 68, 69, 70, 71, 72, 73, 74, 75, 76, 77, 78] (by decide +kernel) (by decide +kernel)) (goodIn_sub (fun _ h => List.mem_cons_of_mem _ (List.mem_append_right _ h)) (by decide +kernel))
set_option maxRecDepth 20000 in
theorem gL_rankWanted_X3_rankWanted : GoodIn wsL_rankWanted (wsV RL 103 RX3 yX3_rankWanted wsX3_rankWanted) := goodIn_app (goodIn_of _ (by decide +kernel)) ggL_rankWanted_X3_rankWanted
theorem dL_rankWanted_0 : decode cL_rankWanted 0 = .ok (.aload_n 2, 1) := by decide +kernel
theorem dL_rankWanted_1 : decode cL_rankWanted 1 = .ok (.iconst 0, 1) := by decide +kernel
theorem dL_rankWanted_2 : decode cL_rankWanted 2 = .ok (.aload_n 0, 1) := by decide +kernel
theorem dL_rankWanted_3 : decode cL_rankWanted 3 = .ok (.iload_n 1, 1) := by decide +kernel
theorem dL_rankWanted_4 : decode cL_rankWanted 4 = .ok (.invokevirtual 103, 3) := by decide +kernel
theorem dL_rankWanted_7 : decode cL_rankWanted 7 = .ok (.i2l, 1) := by decide +kernel
theorem dL_rankWanted_8 : decode cL_rankWanted 8 = .ok (.lastore, 1) := by decide +kernel
theorem dL_rankWanted_9 : decode cL_rankWanted 9 = .ok (.goto 6, 3) := by decide +kernel
theorem dL_rankWanted_12 : decode cL_rankWanted 12 = .ok (.astore_n 3, 1) := by decide +kernel
theorem dL_rankWanted_13 : decode cL_rankWanted 13 = .ok (.iconst 1, 1) := by decide +kernel
theorem dL_rankWanted_14 : decode cL_rankWanted 14 = .ok (.ireturn, 1) := by decide +kernel
theorem dL_rankWanted_15 : decode cL_rankWanted 15 = .ok (.iconst 0, 1) := by decide +kernel
theorem dL_rankWanted_16 : decode cL_rankWanted 16 = .ok (.ireturn, 1) := by decide +kernel
set_option maxRecDepth 20000 in
theorem ggL_firstBar_X3_firstBar : GoodIn wsL_firstBar wsX3_firstBar := goodIn_ca (goodIn_r _ [6, 7, 8, 9, 10, 5, 11, 12, 13, 14, 15, 16, 17, 18, 19, 20, 21, 22, 23, 24, 25, 26, 27, 28, 29, 30, 31, 32, 33, 34, 35, 36, 37, 38, 39, 40, 41, 42, 43, 44, 45, 46, 47, 48, 49, 50, 51, 52, 53, 54, 55, 56, 57, 58, 59, 60, 61, 62, 63, 64, 65, 66, 67, 68, 69] (by decide +kernel) (by decide +kernel)) (goodIn_sub (fun _ h => List.mem_cons_of_mem _ (List.mem_append_right _ h)) (by decide +kernel))
set_option maxRecDepth 20000 in
theorem gL_firstBar_X3_firstBar : GoodIn wsL_firstBar (wsV RL 106 RX3 yX3_firstBar wsX3_firstBar) := goodIn_app (goodIn_of _ (by decide +kernel)) ggL_firstBar_X3_firstBar
theorem dL_firstBar_0 : decode cL_firstBar 0 = .ok (.aload_n 3, 1) := by decide +kernel
theorem dL_firstBar_1 : decode cL_firstBar 1 = .ok (.iconst 0, 1) := by decide +kernel
theorem dL_firstBar_2 : decode cL_firstBar 2 = .ok (.aload_n 0, 1) := by decide +kernel
theorem dL_firstBar_3 : decode cL_firstBar 3 = .ok (.iload_n 1, 1) := by decide +kernel
theorem dL_firstBar_4 : decode cL_firstBar 4 = .ok (.iload_n 2, 1) := by decide +kernel
theorem dL_firstBar_5 : decode cL_firstBar 5 = .ok (.invokevirtual 106, 3) := by decide +kernel
theorem dL_firstBar_8 : decode cL_firstBar 8 = .ok (.i2l, 1) := by decide +kernel
theorem dL_firstBar_9 : decode cL_firstBar 9 = .ok (.lastore, 1) := by decide +kernel
theorem dL_firstBar_10 : decode cL_firstBar 10 = .ok (.goto 7, 3) := by decide +kernel
theorem dL_firstBar_13 : decode cL_firstBar 13 = .ok (.astore 4, 2) := by decide +kernel
theorem dL_firstBar_15 : decode cL_firstBar 15 = .ok (.iconst 1, 1) := by decide +kernel
theorem dL_firstBar_16 : decode cL_firstBar 16 = .ok (.ireturn, 1) := by decide +kernel
theorem dL_firstBar_17 : decode cL_firstBar 17 = .ok (.iconst 0, 1) := by decide +kernel
theorem dL_firstBar_18 : decode cL_firstBar 18 = .ok (.ireturn, 1) := by decide +kernel
