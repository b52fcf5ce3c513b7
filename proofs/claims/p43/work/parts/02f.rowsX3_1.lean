set_option maxRecDepth 20000 in
theorem ggX3_hissOf_X0_gateHiss : GoodIn wsX3_hissOf wsX0_gateHiss := goodIn_r _ [28, 29, 30, 31, 32, 5, 33, 34, 35, 36, 37, 38, 39, 3, 4, 6, 7, 40, 41, 42, 43, 44, 45, 46, 47, 48, 49, 50, 51, 52, 55, 56, 57, 58, 59, 60, 61, 62, 63, 64, 65, 66] (by decide +kernel) (by decide +kernel)
set_option maxRecDepth 20000 in
theorem gX3_hissOf_X0_gateHiss : GoodIn wsX3_hissOf (wsV RX3 135 RX0 yX0_gateHiss wsX0_gateHiss) := goodIn_app (goodIn_of _ (by decide +kernel)) ggX3_hissOf_X0_gateHiss
theorem dX3_hissOf_0 : decode cX3_hissOf 0 = .ok (.aload_n 0, 1) := by decide +kernel
theorem dX3_hissOf_1 : decode cX3_hissOf 1 = .ok (.getfield 10, 3) := by decide +kernel
theorem dX3_hissOf_4 : decode cX3_hissOf 4 = .ok (.iload_n 1, 1) := by decide +kernel
theorem dX3_hissOf_5 : decode cX3_hissOf 5 = .ok (.invokevirtual 47, 3) := by decide +kernel
theorem dX3_hissOf_8 : decode cX3_hissOf 8 = .ok (.invokestatic 50, 3) := by decide +kernel
theorem dX3_hissOf_11 : decode cX3_hissOf 11 = .ok (.iload_n 2, 1) := by decide +kernel
theorem dX3_hissOf_12 : decode cX3_hissOf 12 = .ok (.invokestatic 19, 3) := by decide +kernel
theorem dX3_hissOf_15 : decode cX3_hissOf 15 = .ok (.invokestatic 23, 3) := by decide +kernel
theorem dX3_hissOf_18 : decode cX3_hissOf 18 = .ok (.aload_n 0, 1) := by decide +kernel
theorem dX3_hissOf_19 : decode cX3_hissOf 19 = .ok (.getfield 10, 3) := by decide +kernel
theorem dX3_hissOf_22 : decode cX3_hissOf 22 = .ok (.iload_n 1, 1) := by decide +kernel
theorem dX3_hissOf_23 : decode cX3_hissOf 23 = .ok (.iload_n 2, 1) := by decide +kernel
theorem dX3_hissOf_24 : decode cX3_hissOf 24 = .ok (.invokevirtual 135, 3) := by decide +kernel
theorem dX3_hissOf_27 : decode cX3_hissOf 27 = .ok (.ireturn, 1) := by decide +kernel
set_option maxRecDepth 20000 in
theorem ggX3_loudestGate_X0_gateHiss : GoodIn wsX3_loudestGate wsX0_gateHiss := goodIn_r _ [7, 8, 9, 10, 11, 6, 12, 13, 14, 15, 16, 17, 18, 19, 20, 21, 22, 23, 24, 25, 26, 27, 28, 29, 30, 31, 32, 33, 34, 35, 38, 39, 40, 41, 42, 43, 44, 45, 46, 47, 48, 49] (by decide +kernel) (by decide +kernel)
set_option maxRecDepth 20000 in
theorem gX3_loudestGate_X0_gateHiss : GoodIn wsX3_loudestGate (wsV RX3 135 RX0 yX0_gateHiss wsX0_gateHiss) := goodIn_app (goodIn_of _ (by decide +kernel)) ggX3_loudestGate_X0_gateHiss
theorem dX3_loudestGate_0 : decode cX3_loudestGate 0 = .ok (.iconst (-1), 1) := by decide +kernel
theorem dX3_loudestGate_1 : decode cX3_loudestGate 1 = .ok (.istore_n 1, 1) := by decide +kernel
theorem dX3_loudestGate_2 : decode cX3_loudestGate 2 = .ok (.iconst (-1), 1) := by decide +kernel
theorem dX3_loudestGate_3 : decode cX3_loudestGate 3 = .ok (.istore_n 2, 1) := by decide +kernel
theorem dX3_loudestGate_4 : decode cX3_loudestGate 4 = .ok (.iconst 0, 1) := by decide +kernel
theorem dX3_loudestGate_5 : decode cX3_loudestGate 5 = .ok (.istore_n 3, 1) := by decide +kernel
theorem dX3_loudestGate_6 : decode cX3_loudestGate 6 = .ok (.iload_n 3, 1) := by decide +kernel
theorem dX3_loudestGate_7 : decode cX3_loudestGate 7 = .ok (.aload_n 0, 1) := by decide +kernel
theorem dX3_loudestGate_8 : decode cX3_loudestGate 8 = .ok (.getfield 10, 3) := by decide +kernel
theorem dX3_loudestGate_11 : decode cX3_loudestGate 11 = .ok (.getfield 27, 3) := by decide +kernel
theorem dX3_loudestGate_14 : decode cX3_loudestGate 14 = .ok (.if_icmp .ge 31, 3) := by decide +kernel
theorem dX3_loudestGate_17 : decode cX3_loudestGate 17 = .ok (.aload_n 0, 1) := by decide +kernel
theorem dX3_loudestGate_18 : decode cX3_loudestGate 18 = .ok (.getfield 10, 3) := by decide +kernel
theorem dX3_loudestGate_21 : decode cX3_loudestGate 21 = .ok (.iload_n 3, 1) := by decide +kernel
theorem dX3_loudestGate_22 : decode cX3_loudestGate 22 = .ok (.iconst 0, 1) := by decide +kernel
theorem dX3_loudestGate_23 : decode cX3_loudestGate 23 = .ok (.invokevirtual 135, 3) := by decide +kernel
theorem dX3_loudestGate_26 : decode cX3_loudestGate 26 = .ok (.istore 4, 2) := by decide +kernel
theorem dX3_loudestGate_28 : decode cX3_loudestGate 28 = .ok (.iload 4, 2) := by decide +kernel
theorem dX3_loudestGate_30 : decode cX3_loudestGate 30 = .ok (.iload_n 2, 1) := by decide +kernel
theorem dX3_loudestGate_31 : decode cX3_loudestGate 31 = .ok (.if_icmp .le 8, 3) := by decide +kernel
theorem dX3_loudestGate_34 : decode cX3_loudestGate 34 = .ok (.iload 4, 2) := by decide +kernel
theorem dX3_loudestGate_36 : decode cX3_loudestGate 36 = .ok (.istore_n 2, 1) := by decide +kernel
theorem dX3_loudestGate_37 : decode cX3_loudestGate 37 = .ok (.iload_n 3, 1) := by decide +kernel
theorem dX3_loudestGate_38 : decode cX3_loudestGate 38 = .ok (.istore_n 1, 1) := by decide +kernel
theorem dX3_loudestGate_39 : decode cX3_loudestGate 39 = .ok (.iinc 3 1, 3) := by decide +kernel
theorem dX3_loudestGate_42 : decode cX3_loudestGate 42 = .ok (.goto (-36), 3) := by decide +kernel
theorem dX3_loudestGate_45 : decode cX3_loudestGate 45 = .ok (.iload_n 1, 1) := by decide +kernel
theorem dX3_loudestGate_46 : decode cX3_loudestGate 46 = .ok (.ireturn, 1) := by decide +kernel
set_option maxRecDepth 20000 in
theorem ggX3_gateOf_X3_demandGoose : GoodIn wsX3_gateOf wsX3_demandGoose := goodIn_ca (goodIn_r _ [8, 1, 2, 9, 10, 11, 12, 13, 14, 15, 16, 7, 17, 18, 19, 20, 21, 22, 23, 24, 25, 26, 27, 28, 29, 30, 31, 32, 33] (by decide +kernel) (by decide +kernel)) (goodIn_sub (fun _ h => List.mem_cons_of_mem _ (List.mem_append_right _ h)) (by decide +kernel))
set_option maxRecDepth 20000 in
theorem gX3_gateOf_X3_demandGoose : GoodIn wsX3_gateOf (wsV RX3 97 RX3 yX3_demandGoose wsX3_demandGoose) := goodIn_app (goodIn_of _ (by decide +kernel)) ggX3_gateOf_X3_demandGoose
theorem dX3_gateOf_0 : decode cX3_gateOf 0 = .ok (.aload_n 0, 1) := by decide +kernel
theorem dX3_gateOf_1 : decode cX3_gateOf 1 = .ok (.iload_n 1, 1) := by decide +kernel
theorem dX3_gateOf_2 : decode cX3_gateOf 2 = .ok (.invokevirtual 97, 3) := by decide +kernel
theorem dX3_gateOf_5 : decode cX3_gateOf 5 = .ok (.aload_n 0, 1) := by decide +kernel
theorem dX3_gateOf_6 : decode cX3_gateOf 6 = .ok (.getfield 10, 3) := by decide +kernel
theorem dX3_gateOf_9 : decode cX3_gateOf 9 = .ok (.getfield 57, 3) := by decide +kernel
theorem dX3_gateOf_12 : decode cX3_gateOf 12 = .ok (.getfield 82, 3) := by decide +kernel
theorem dX3_gateOf_15 : decode cX3_gateOf 15 = .ok (.iload_n 1, 1) := by decide +kernel
theorem dX3_gateOf_16 : decode cX3_gateOf 16 = .ok (.iaload, 1) := by decide +kernel
theorem dX3_gateOf_17 : decode cX3_gateOf 17 = .ok (.ireturn, 1) := by decide +kernel
set_option maxRecDepth 20000 in
theorem ggX3_temperOf_X3_demandGoose : GoodIn wsX3_temperOf wsX3_demandGoose := goodIn_ca (goodIn_r _ [8, 1, 2, 9, 10, 11, 12, 13, 14, 15, 16, 7, 17, 18, 19, 20, 21, 22, 23, 24, 25, 26, 27, 28, 29, 30, 31, 32, 33] (by decide +kernel) (by decide +kernel)) (goodIn_sub (fun _ h => List.mem_cons_of_mem _ (List.mem_append_right _ h)) (by decide +kernel))
set_option maxRecDepth 20000 in
theorem gX3_temperOf_X3_demandGoose : GoodIn wsX3_temperOf (wsV RX3 97 RX3 yX3_demandGoose wsX3_demandGoose) := goodIn_app (goodIn_of _ (by decide +kernel)) ggX3_temperOf_X3_demandGoose
theorem dX3_temperOf_0 : decode cX3_temperOf 0 = .ok (.aload_n 0, 1) := by decide +kernel
theorem dX3_temperOf_1 : decode cX3_temperOf 1 = .ok (.iload_n 1, 1) := by decide +kernel
theorem dX3_temperOf_2 : decode cX3_temperOf 2 = .ok (.invokevirtual 97, 3) := by decide +kernel
theorem dX3_temperOf_5 : decode cX3_temperOf 5 = .ok (.aload_n 0, 1) := by decide +kernel
theorem dX3_temperOf_6 : decode cX3_temperOf 6 = .ok (.getfield 10, 3) := by decide +kernel
theorem dX3_temperOf_9 : decode cX3_temperOf 9 = .ok (.getfield 57, 3) := by decide +kernel
theorem dX3_temperOf_12 : decode cX3_temperOf 12 = .ok (.getfield 110, 3) := by decide +kernel
theorem dX3_temperOf_15 : decode cX3_temperOf 15 = .ok (.iload_n 1, 1) := by decide +kernel
theorem dX3_temperOf_16 : decode cX3_temperOf 16 = .ok (.iaload, 1) := by decide +kernel
theorem dX3_temperOf_17 : decode cX3_temperOf 17 = .ok (.ireturn, 1) := by decide +kernel
set_option maxRecDepth 20000 in
theorem ggX3_calmFor_X3_demandGoose : GoodIn wsX3_calmFor wsX3_demandGoose := goodIn_ca (goodIn_r _ [8, 1, 2, 9, 10, 11, 12, 13, 14, 15, 16, 7, 17, 18, 19, 20, 21, 22, 23, 24, 25, 26, 27, 28, 29, 30, 31, 32, 33] (by decide +kernel) (by decide +kernel)) (goodIn_sub (fun _ h => List.mem_cons_of_mem _ (List.mem_append_right _ h)) (by decide +kernel))
set_option maxRecDepth 20000 in
theorem gX3_calmFor_X3_demandGoose : GoodIn wsX3_calmFor (wsV RX3 97 RX3 yX3_demandGoose wsX3_demandGoose) := goodIn_app (goodIn_of _ (by decide +kernel)) ggX3_calmFor_X3_demandGoose
theorem dX3_calmFor_0 : decode cX3_calmFor 0 = .ok (.aload_n 0, 1) := by decide +kernel
theorem dX3_calmFor_1 : decode cX3_calmFor 1 = .ok (.iload_n 1, 1) := by decide +kernel
theorem dX3_calmFor_2 : decode cX3_calmFor 2 = .ok (.invokevirtual 97, 3) := by decide +kernel
theorem dX3_calmFor_5 : decode cX3_calmFor 5 = .ok (.aload_n 0, 1) := by decide +kernel
theorem dX3_calmFor_6 : decode cX3_calmFor 6 = .ok (.getfield 10, 3) := by decide +kernel
theorem dX3_calmFor_9 : decode cX3_calmFor 9 = .ok (.getfield 57, 3) := by decide +kernel
theorem dX3_calmFor_12 : decode cX3_calmFor 12 = .ok (.getfield 138, 3) := by decide +kernel
theorem dX3_calmFor_15 : decode cX3_calmFor 15 = .ok (.iload_n 1, 1) := by decide +kernel
theorem dX3_calmFor_16 : decode cX3_calmFor 16 = .ok (.iaload, 1) := by decide +kernel
theorem dX3_calmFor_17 : decode cX3_calmFor 17 = .ok (.ireturn, 1) := by decide +kernel
set_option maxRecDepth 20000 in
theorem ggX3_eatenBy_X3_demandGoose : GoodIn wsX3_eatenBy wsX3_demandGoose := goodIn_ca (goodIn_r _ [8, 1, 2, 9, 10, 11, 12, 13, 14, 15, 16, 7, 17, 18, 19, 20, 21, 22, 23, 24, 25, 26, 27, 28, 29, 30, 31, 32, 33] (by decide +kernel) (by decide +kernel)) (goodIn_sub (fun _ h => List.mem_cons_of_mem _ (List.mem_append_right _ h)) (by decide +kernel))
set_option maxRecDepth 20000 in
theorem gX3_eatenBy_X3_demandGoose : GoodIn wsX3_eatenBy (wsV RX3 97 RX3 yX3_demandGoose wsX3_demandGoose) := goodIn_app (goodIn_of _ (by decide +kernel)) ggX3_eatenBy_X3_demandGoose
theorem dX3_eatenBy_0 : decode cX3_eatenBy 0 = .ok (.aload_n 0, 1) := by decide +kernel
theorem dX3_eatenBy_1 : decode cX3_eatenBy 1 = .ok (.iload_n 1, 1) := by decide +kernel
theorem dX3_eatenBy_2 : decode cX3_eatenBy 2 = .ok (.invokevirtual 97, 3) := by decide +kernel
theorem dX3_eatenBy_5 : decode cX3_eatenBy 5 = .ok (.aload_n 0, 1) := by decide +kernel
theorem dX3_eatenBy_6 : decode cX3_eatenBy 6 = .ok (.getfield 10, 3) := by decide +kernel
theorem dX3_eatenBy_9 : decode cX3_eatenBy 9 = .ok (.getfield 57, 3) := by decide +kernel
theorem dX3_eatenBy_12 : decode cX3_eatenBy 12 = .ok (.getfield 141, 3) := by decide +kernel
theorem dX3_eatenBy_15 : decode cX3_eatenBy 15 = .ok (.iload_n 1, 1) := by decide +kernel
theorem dX3_eatenBy_16 : decode cX3_eatenBy 16 = .ok (.iaload, 1) := by decide +kernel
theorem dX3_eatenBy_17 : decode cX3_eatenBy 17 = .ok (.ireturn, 1) := by decide +kernel
set_option maxRecDepth 20000 in
theorem ggX3_passedBy_X3_demandVisitor : GoodIn wsX3_passedBy wsX3_demandVisitor := goodIn_ca (goodIn_r _ [8, 1, 2, 9, 10, 11, 12, 13, 14, 15, 16, 7, 17, 18, 19, 20, 21, 22, 23, 24, 25, 26, 27, 28, 29, 30, 31, 32, 33, 34] (by decide +kernel) (by decide +kernel)) (goodIn_sub (fun _ h => List.mem_cons_of_mem _ (List.mem_append_right _ h)) (by decide +kernel))
set_option maxRecDepth 20000 in
theorem gX3_passedBy_X3_demandVisitor : GoodIn wsX3_passedBy (wsV RX3 85 RX3 yX3_demandVisitor wsX3_demandVisitor) := goodIn_app (goodIn_of _ (by decide +kernel)) ggX3_passedBy_X3_demandVisitor
theorem dX3_passedBy_0 : decode cX3_passedBy 0 = .ok (.aload_n 0, 1) := by decide +kernel
theorem dX3_passedBy_1 : decode cX3_passedBy 1 = .ok (.iload_n 1, 1) := by decide +kernel
theorem dX3_passedBy_2 : decode cX3_passedBy 2 = .ok (.invokevirtual 85, 3) := by decide +kernel
theorem dX3_passedBy_5 : decode cX3_passedBy 5 = .ok (.aload_n 0, 1) := by decide +kernel
theorem dX3_passedBy_6 : decode cX3_passedBy 6 = .ok (.getfield 10, 3) := by decide +kernel
theorem dX3_passedBy_9 : decode cX3_passedBy 9 = .ok (.getfield 31, 3) := by decide +kernel
theorem dX3_passedBy_12 : decode cX3_passedBy 12 = .ok (.getfield 103, 3) := by decide +kernel
theorem dX3_passedBy_15 : decode cX3_passedBy 15 = .ok (.iload_n 1, 1) := by decide +kernel
theorem dX3_passedBy_16 : decode cX3_passedBy 16 = .ok (.iaload, 1) := by decide +kernel
theorem dX3_passedBy_17 : decode cX3_passedBy 17 = .ok (.ireturn, 1) := by decide +kernel
set_option maxRecDepth 20000 in
theorem ggX3_isInFarm_X3_demandVisitor : GoodIn wsX3_isInFarm wsX3_demandVisitor := goodIn_ca (goodIn_r _ [6, 1, 7, 8, 9, 10, 11, 12, 13, 14, 15, 5, 16, 17, 18, 27, 28, 29, 30, 31, 32, 33, 34, 35, 36, 37, 38, 39, 40, 41] (by decide +kernel) (by decide +kernel)) (goodIn_sub (fun _ h => List.mem_cons_of_mem _ (List.mem_append_right _ h)) (by decide +kernel))
set_option maxRecDepth 20000 in
theorem gX3_isInFarm_X3_demandVisitor : GoodIn wsX3_isInFarm (wsV RX3 85 RX3 yX3_demandVisitor wsX3_demandVisitor) := goodIn_app (goodIn_of _ (by decide +kernel)) ggX3_isInFarm_X3_demandVisitor
set_option maxRecDepth 20000 in
theorem ggX3_isInFarm_X0_isBehindAll : GoodIn wsX3_isInFarm wsX0_isBehindAll := goodIn_r _ [23, 24, 25, 26, 29, 30, 31, 32, 33, 34, 35, 36, 37, 38, 39, 40, 41] (by decide +kernel) (by decide +kernel)
set_option maxRecDepth 20000 in
theorem gX3_isInFarm_X0_isBehindAll : GoodIn wsX3_isInFarm (wsV RX3 100 RX0 yX0_isBehindAll wsX0_isBehindAll) := goodIn_app (goodIn_of _ (by decide +kernel)) ggX3_isInFarm_X0_isBehindAll
theorem dX3_isInFarm_0 : decode cX3_isInFarm 0 = .ok (.aload_n 0, 1) := by decide +kernel
theorem dX3_isInFarm_1 : decode cX3_isInFarm 1 = .ok (.iload_n 1, 1) := by decide +kernel
theorem dX3_isInFarm_2 : decode cX3_isInFarm 2 = .ok (.invokevirtual 85, 3) := by decide +kernel
theorem dX3_isInFarm_5 : decode cX3_isInFarm 5 = .ok (.aload_n 0, 1) := by decide +kernel
theorem dX3_isInFarm_6 : decode cX3_isInFarm 6 = .ok (.getfield 10, 3) := by decide +kernel
theorem dX3_isInFarm_9 : decode cX3_isInFarm 9 = .ok (.iload_n 1, 1) := by decide +kernel
theorem dX3_isInFarm_10 : decode cX3_isInFarm 10 = .ok (.invokevirtual 100, 3) := by decide +kernel
theorem dX3_isInFarm_13 : decode cX3_isInFarm 13 = .ok (.ireturn, 1) := by decide +kernel
set_option maxRecDepth 20000 in
theorem ggX3_cornsOf_X3_demandVisitor : GoodIn wsX3_cornsOf wsX3_demandVisitor := goodIn_ca (goodIn_r _ [8, 1, 2, 9, 10, 11, 12, 13, 14, 15, 16, 7, 17, 18, 19, 20, 21, 22, 23, 24, 25, 26, 27, 28, 29, 30, 31, 32, 33, 34] (by decide +kernel) (by decide +kernel)) (goodIn_sub (fun _ h => List.mem_cons_of_mem _ (List.mem_append_right _ h)) (by decide +kernel))
set_option maxRecDepth 20000 in
theorem gX3_cornsOf_X3_demandVisitor : GoodIn wsX3_cornsOf (wsV RX3 85 RX3 yX3_demandVisitor wsX3_demandVisitor) := goodIn_app (goodIn_of _ (by decide +kernel)) ggX3_cornsOf_X3_demandVisitor
theorem dX3_cornsOf_0 : decode cX3_cornsOf 0 = .ok (.aload_n 0, 1) := by decide +kernel
theorem dX3_cornsOf_1 : decode cX3_cornsOf 1 = .ok (.iload_n 1, 1) := by decide +kernel
theorem dX3_cornsOf_2 : decode cX3_cornsOf 2 = .ok (.invokevirtual 85, 3) := by decide +kernel
theorem dX3_cornsOf_5 : decode cX3_cornsOf 5 = .ok (.aload_n 0, 1) := by decide +kernel
theorem dX3_cornsOf_6 : decode cX3_cornsOf 6 = .ok (.getfield 10, 3) := by decide +kernel
theorem dX3_cornsOf_9 : decode cX3_cornsOf 9 = .ok (.getfield 31, 3) := by decide +kernel
theorem dX3_cornsOf_12 : decode cX3_cornsOf 12 = .ok (.getfield 89, 3) := by decide +kernel
theorem dX3_cornsOf_15 : decode cX3_cornsOf 15 = .ok (.iload_n 1, 1) := by decide +kernel
theorem dX3_cornsOf_16 : decode cX3_cornsOf 16 = .ok (.iaload, 1) := by decide +kernel
theorem dX3_cornsOf_17 : decode cX3_cornsOf 17 = .ok (.ireturn, 1) := by decide +kernel
set_option maxRecDepth 20000 in
theorem ggX3_nerveOf_X3_demandVisitor : GoodIn wsX3_nerveOf wsX3_demandVisitor := goodIn_ca (goodIn_r _ [8, 1, 2, 9, 10, 11, 12, 13, 14, 15, 16, 7, 17, 18, 19, 20, 21, 22, 23, 24, 25, 26, 27, 28, 29, 30, 31, 32, 33, 34] (by decide +kernel) (by decide +kernel)) (goodIn_sub (fun _ h => List.mem_cons_of_mem _ (List.mem_append_right _ h)) (by decide +kernel))
set_option maxRecDepth 20000 in
theorem gX3_nerveOf_X3_demandVisitor : GoodIn wsX3_nerveOf (wsV RX3 85 RX3 yX3_demandVisitor wsX3_demandVisitor) := goodIn_app (goodIn_of _ (by decide +kernel)) ggX3_nerveOf_X3_demandVisitor
theorem dX3_nerveOf_0 : decode cX3_nerveOf 0 = .ok (.aload_n 0, 1) := by decide +kernel
theorem dX3_nerveOf_1 : decode cX3_nerveOf 1 = .ok (.iload_n 1, 1) := by decide +kernel
theorem dX3_nerveOf_2 : decode cX3_nerveOf 2 = .ok (.invokevirtual 85, 3) := by decide +kernel
theorem dX3_nerveOf_5 : decode cX3_nerveOf 5 = .ok (.aload_n 0, 1) := by decide +kernel
theorem dX3_nerveOf_6 : decode cX3_nerveOf 6 = .ok (.getfield 10, 3) := by decide +kernel
theorem dX3_nerveOf_9 : decode cX3_nerveOf 9 = .ok (.getfield 31, 3) := by decide +kernel
theorem dX3_nerveOf_12 : decode cX3_nerveOf 12 = .ok (.getfield 144, 3) := by decide +kernel
theorem dX3_nerveOf_15 : decode cX3_nerveOf 15 = .ok (.iload_n 1, 1) := by decide +kernel
theorem dX3_nerveOf_16 : decode cX3_nerveOf 16 = .ok (.iaload, 1) := by decide +kernel
theorem dX3_nerveOf_17 : decode cX3_nerveOf 17 = .ok (.ireturn, 1) := by decide +kernel
set_option maxRecDepth 20000 in
theorem ggX3_retreatOf_X3_demandVisitor : GoodIn wsX3_retreatOf wsX3_demandVisitor := goodIn_ca (goodIn_r _ [8, 1, 2, 9, 10, 11, 12, 13, 14, 15, 16, 7, 17, 18, 19, 20, 21, 22, 23, 24, 25, 26, 27, 28, 29, 30, 31, 32, 33, 34] (by decide +kernel) (by decide +kernel)) (goodIn_sub (fun _ h => List.mem_cons_of_mem _ (List.mem_append_right _ h)) (by decide +kernel))
set_option maxRecDepth 20000 in
theorem gX3_retreatOf_X3_demandVisitor : GoodIn wsX3_retreatOf (wsV RX3 85 RX3 yX3_demandVisitor wsX3_demandVisitor) := goodIn_app (goodIn_of _ (by decide +kernel)) ggX3_retreatOf_X3_demandVisitor
theorem dX3_retreatOf_0 : decode cX3_retreatOf 0 = .ok (.aload_n 0, 1) := by decide +kernel
theorem dX3_retreatOf_1 : decode cX3_retreatOf 1 = .ok (.iload_n 1, 1) := by decide +kernel
theorem dX3_retreatOf_2 : decode cX3_retreatOf 2 = .ok (.invokevirtual 85, 3) := by decide +kernel
theorem dX3_retreatOf_5 : decode cX3_retreatOf 5 = .ok (.aload_n 0, 1) := by decide +kernel
theorem dX3_retreatOf_6 : decode cX3_retreatOf 6 = .ok (.getfield 10, 3) := by decide +kernel
theorem dX3_retreatOf_9 : decode cX3_retreatOf 9 = .ok (.getfield 31, 3) := by decide +kernel
theorem dX3_retreatOf_12 : decode cX3_retreatOf 12 = .ok (.getfield 147, 3) := by decide +kernel
theorem dX3_retreatOf_15 : decode cX3_retreatOf 15 = .ok (.iload_n 1, 1) := by decide +kernel
theorem dX3_retreatOf_16 : decode cX3_retreatOf 16 = .ok (.iaload, 1) := by decide +kernel
theorem dX3_retreatOf_17 : decode cX3_retreatOf 17 = .ok (.ireturn, 1) := by decide +kernel
set_option maxRecDepth 20000 in
theorem ggX3_hissAt_X3_demandVisitor : GoodIn wsX3_hissAt wsX3_demandVisitor := goodIn_ca (goodIn_r _ [6, 1, 7, 8, 9, 10, 11, 12, 13, 14, 15, 5, 16, 17, 18, 59, 60, 61, 62, 63, 64, 65, 66, 67, 68, 69, 70, 71, 72, 73] (by decide +kernel) (by decide +kernel)) (goodIn_sub (fun _ h => List.mem_cons_of_mem _ (List.mem_append_right _ h)) (by decide +kernel))
set_option maxRecDepth 20000 in
theorem gX3_hissAt_X3_demandVisitor : GoodIn wsX3_hissAt (wsV RX3 85 RX3 yX3_demandVisitor wsX3_demandVisitor) := goodIn_app (goodIn_of _ (by decide +kernel)) ggX3_hissAt_X3_demandVisitor
set_option maxRecDepth 20000 in
theorem ggX3_hissAt_X0_guestHiss : GoodIn wsX3_hissAt wsX0_guestHiss := goodIn_r _ [23, 24, 25, 26, 27, 28, 29, 22, 30, 31, 32, 33, 34, 35, 36, 37, 38, 39, 40, 41, 42, 43, 44, 45, 46, 47, 48, 49, 50, 51, 52, 53, 54, 55, 56, 57, 58, 61, 62, 63, 64, 65, 66, 67, 68, 69, 70, 71, 72, 73, 74, 75, 76, 77, 78] (by decide +kernel) (by decide +kernel)
set_option maxRecDepth 20000 in
theorem gX3_hissAt_X0_guestHiss : GoodIn wsX3_hissAt (wsV RX3 150 RX0 yX0_guestHiss wsX0_guestHiss) := goodIn_app (goodIn_of _ (by decide +kernel)) ggX3_hissAt_X0_guestHiss
theorem dX3_hissAt_0 : decode cX3_hissAt 0 = .ok (.aload_n 0, 1) := by decide +kernel
theorem dX3_hissAt_1 : decode cX3_hissAt 1 = .ok (.iload_n 1, 1) := by decide +kernel
theorem dX3_hissAt_2 : decode cX3_hissAt 2 = .ok (.invokevirtual 85, 3) := by decide +kernel
theorem dX3_hissAt_5 : decode cX3_hissAt 5 = .ok (.aload_n 0, 1) := by decide +kernel
theorem dX3_hissAt_6 : decode cX3_hissAt 6 = .ok (.getfield 10, 3) := by decide +kernel
theorem dX3_hissAt_9 : decode cX3_hissAt 9 = .ok (.iload_n 1, 1) := by decide +kernel
theorem dX3_hissAt_10 : decode cX3_hissAt 10 = .ok (.invokevirtual 150, 3) := by decide +kernel
theorem dX3_hissAt_13 : decode cX3_hissAt 13 = .ok (.ireturn, 1) := by decide +kernel
set_option maxRecDepth 20000 in
theorem ggX3_gradeFor_X3_demandVisitor : GoodIn wsX3_gradeFor wsX3_demandVisitor := goodIn_ca (goodIn_r _ [6, 1, 7, 8, 9, 10, 11, 12, 13, 14, 15, 5, 16, 17, 18, 62, 63, 64, 65, 66, 67, 68, 69, 70, 71, 72, 73, 74, 75, 76] (by decide +kernel) (by decide +kernel)) (goodIn_sub (fun _ h => List.mem_cons_of_mem _ (List.mem_append_right _ h)) (by decide +kernel))
set_option maxRecDepth 20000 in
theorem gX3_gradeFor_X3_demandVisitor : GoodIn wsX3_gradeFor (wsV RX3 85 RX3 yX3_demandVisitor wsX3_demandVisitor) := goodIn_app (goodIn_of _ (by decide +kernel)) ggX3_gradeFor_X3_demandVisitor
set_option maxRecDepth 20000 in
theorem ggX3_gradeFor_X0_guestHiss : GoodIn wsX3_gradeFor wsX0_guestHiss := goodIn_r _ [23, 24, 25, 26, 27, 28, 29, 22, 30, 31, 32, 33, 34, 35, 36, 37, 38, 39, 40, 41, 42, 43, 44, 45, 46, 47, 48, 49, 50, 51, 52, 53, 54, 55, 56, 57, 58, 64, 65, 66, 67, 68, 69, 70, 71, 72, 73, 74, 75, 76, 77, 78, 79, 80, 81] (by decide +kernel) (by decide +kernel)
set_option maxRecDepth 20000 in
theorem gX3_gradeFor_X0_guestHiss : GoodIn wsX3_gradeFor (wsV RX3 150 RX0 yX0_guestHiss wsX0_guestHiss) := goodIn_app (goodIn_of _ (by decide +kernel)) ggX3_gradeFor_X0_guestHiss
set_option maxRecDepth 20000 in
theorem ggX3_gradeFor_X3_gradeOfHiss : GoodIn wsX3_gradeFor wsX3_gradeOfHiss := goodIn_r _ [61] (by decide +kernel) (by decide +kernel)
set_option maxRecDepth 20000 in
theorem gX3_gradeFor_X3_gradeOfHiss : GoodIn wsX3_gradeFor (va_wsS RX3 153 yX3_gradeOfHiss wsX3_gradeOfHiss) := goodIn_app (goodIn_of _ (by decide +kernel)) ggX3_gradeFor_X3_gradeOfHiss
theorem dX3_gradeFor_0 : decode cX3_gradeFor 0 = .ok (.aload_n 0, 1) := by decide +kernel
theorem dX3_gradeFor_1 : decode cX3_gradeFor 1 = .ok (.iload_n 1, 1) := by decide +kernel
theorem dX3_gradeFor_2 : decode cX3_gradeFor 2 = .ok (.invokevirtual 85, 3) := by decide +kernel
theorem dX3_gradeFor_5 : decode cX3_gradeFor 5 = .ok (.aload_n 0, 1) := by decide +kernel
theorem dX3_gradeFor_6 : decode cX3_gradeFor 6 = .ok (.getfield 10, 3) := by decide +kernel
theorem dX3_gradeFor_9 : decode cX3_gradeFor 9 = .ok (.iload_n 1, 1) := by decide +kernel
theorem dX3_gradeFor_10 : decode cX3_gradeFor 10 = .ok (.invokevirtual 150, 3) := by decide +kernel
theorem dX3_gradeFor_13 : decode cX3_gradeFor 13 = .ok (.invokestatic 153, 3) := by decide +kernel
theorem dX3_gradeFor_16 : decode cX3_gradeFor 16 = .ok (.ireturn, 1) := by decide +kernel
set_option maxRecDepth 20000 in
theorem ggX3_dares_X3_demandVisitor : GoodIn wsX3_dares wsX3_demandVisitor := goodIn_ca (goodIn_r _ [8, 1, 2, 9, 10, 11, 12, 13, 14, 15, 16, 7, 17, 18, 19, 64, 65, 66, 67, 68, 69, 70, 71, 72, 73, 74, 75, 76, 77, 78] (by decide +kernel) (by decide +kernel)) (goodIn_sub (fun _ h => List.mem_cons_of_mem _ (List.mem_append_right _ h)) (by decide +kernel))
set_option maxRecDepth 20000 in
theorem gX3_dares_X3_demandVisitor : GoodIn wsX3_dares (wsV RX3 85 RX3 yX3_demandVisitor wsX3_demandVisitor) := goodIn_app (goodIn_of _ (by decide +kernel)) ggX3_dares_X3_demandVisitor
set_option maxRecDepth 20000 in
theorem ggX3_dares_X0_isBehindAll : GoodIn wsX3_dares wsX0_isBehindAll := goodIn_r _ [24, 25, 26, 27, 66, 67, 68, 69, 70, 71, 72, 73, 74, 75, 76, 77, 78] (by decide +kernel) (by decide +kernel)
set_option maxRecDepth 20000 in
theorem gX3_dares_X0_isBehindAll : GoodIn wsX3_dares (wsV RX3 100 RX0 yX0_isBehindAll wsX0_isBehindAll) := goodIn_app (goodIn_of _ (by decide +kernel)) ggX3_dares_X0_isBehindAll
set_option maxRecDepth 20000 in
theorem ggX3_dares_X0_guestHiss : GoodIn wsX3_dares wsX0_guestHiss := goodIn_r _ [31, 25, 26, 32, 33, 34, 35, 23, 36, 37, 38, 39, 40, 41, 42, 43, 44, 45, 46, 47, 48, 49, 50, 27, 51, 52, 53, 54, 55, 56, 57, 58, 59, 60, 61, 62, 63, 66, 67, 68, 69, 70, 71, 72, 73, 74, 75, 76, 77, 78, 79, 80, 81, 82, 83] (by decide +kernel) (by decide +kernel)
set_option maxRecDepth 20000 in
theorem gX3_dares_X0_guestHiss : GoodIn wsX3_dares (wsV RX3 150 RX0 yX0_guestHiss wsX0_guestHiss) := goodIn_app (goodIn_of _ (by decide +kernel)) ggX3_dares_X0_guestHiss
theorem dX3_dares_0 : decode cX3_dares 0 = .ok (.aload_n 0, 1) := by decide +kernel
theorem dX3_dares_1 : decode cX3_dares 1 = .ok (.iload_n 1, 1) := by decide +kernel
theorem dX3_dares_2 : decode cX3_dares 2 = .ok (.invokevirtual 85, 3) := by decide +kernel
theorem dX3_dares_5 : decode cX3_dares 5 = .ok (.aload_n 0, 1) := by decide +kernel
theorem dX3_dares_6 : decode cX3_dares 6 = .ok (.getfield 10, 3) := by decide +kernel
theorem dX3_dares_9 : decode cX3_dares 9 = .ok (.iload_n 1, 1) := by decide +kernel
theorem dX3_dares_10 : decode cX3_dares 10 = .ok (.invokevirtual 100, 3) := by decide +kernel
theorem dX3_dares_13 : decode cX3_dares 13 = .ok (.ifCond .ne 30, 3) := by decide +kernel
theorem dX3_dares_16 : decode cX3_dares 16 = .ok (.aload_n 0, 1) := by decide +kernel
theorem dX3_dares_17 : decode cX3_dares 17 = .ok (.getfield 10, 3) := by decide +kernel
theorem dX3_dares_20 : decode cX3_dares 20 = .ok (.iload_n 1, 1) := by decide +kernel
theorem dX3_dares_21 : decode cX3_dares 21 = .ok (.invokevirtual 150, 3) := by decide +kernel
theorem dX3_dares_24 : decode cX3_dares 24 = .ok (.aload_n 0, 1) := by decide +kernel
theorem dX3_dares_25 : decode cX3_dares 25 = .ok (.getfield 10, 3) := by decide +kernel
theorem dX3_dares_28 : decode cX3_dares 28 = .ok (.getfield 31, 3) := by decide +kernel
theorem dX3_dares_31 : decode cX3_dares 31 = .ok (.getfield 144, 3) := by decide +kernel
theorem dX3_dares_34 : decode cX3_dares 34 = .ok (.iload_n 1, 1) := by decide +kernel
theorem dX3_dares_35 : decode cX3_dares 35 = .ok (.iaload, 1) := by decide +kernel
theorem dX3_dares_36 : decode cX3_dares 36 = .ok (.if_icmp .gt 7, 3) := by decide +kernel
theorem dX3_dares_39 : decode cX3_dares 39 = .ok (.iconst 1, 1) := by decide +kernel
theorem dX3_dares_40 : decode cX3_dares 40 = .ok (.goto 4, 3) := by decide +kernel
theorem dX3_dares_43 : decode cX3_dares 43 = .ok (.iconst 0, 1) := by decide +kernel
theorem dX3_dares_44 : decode cX3_dares 44 = .ok (.ireturn, 1) := by decide +kernel
set_option maxRecDepth 20000 in
theorem ggX3_meanTemper_X1_sumOfTempers : GoodIn wsX3_meanTemper wsX1_sumOfTempers := goodIn_r _ [8, 9, 10, 20, 21, 22, 23, 24] (by decide +kernel) (by decide +kernel)
set_option maxRecDepth 20000 in
theorem gX3_meanTemper_X1_sumOfTempers : GoodIn wsX3_meanTemper (wsV RX3 169 RX1 yX1_sumOfTempers wsX1_sumOfTempers) := goodIn_app (goodIn_of _ (by decide +kernel)) ggX3_meanTemper_X1_sumOfTempers
theorem dX3_meanTemper_0 : decode cX3_meanTemper 0 = .ok (.aload_n 0, 1) := by decide +kernel
theorem dX3_meanTemper_1 : decode cX3_meanTemper 1 = .ok (.getfield 10, 3) := by decide +kernel
theorem dX3_meanTemper_4 : decode cX3_meanTemper 4 = .ok (.getfield 57, 3) := by decide +kernel
theorem dX3_meanTemper_7 : decode cX3_meanTemper 7 = .ok (.getfield 61, 3) := by decide +kernel
theorem dX3_meanTemper_10 : decode cX3_meanTemper 10 = .ok (.istore_n 1, 1) := by decide +kernel
theorem dX3_meanTemper_11 : decode cX3_meanTemper 11 = .ok (.iload_n 1, 1) := by decide +kernel
theorem dX3_meanTemper_12 : decode cX3_meanTemper 12 = .ok (.ifCond .ne 5, 3) := by decide +kernel
theorem dX3_meanTemper_15 : decode cX3_meanTemper 15 = .ok (.dconst 0, 1) := by decide +kernel
theorem dX3_meanTemper_16 : decode cX3_meanTemper 16 = .ok (.dreturn, 1) := by decide +kernel
theorem dX3_meanTemper_17 : decode cX3_meanTemper 17 = .ok (.aload_n 0, 1) := by decide +kernel
theorem dX3_meanTemper_18 : decode cX3_meanTemper 18 = .ok (.getfield 10, 3) := by decide +kernel
theorem dX3_meanTemper_21 : decode cX3_meanTemper 21 = .ok (.getfield 57, 3) := by decide +kernel
theorem dX3_meanTemper_24 : decode cX3_meanTemper 24 = .ok (.invokevirtual 169, 3) := by decide +kernel
theorem dX3_meanTemper_27 : decode cX3_meanTemper 27 = .ok (.i2d, 1) := by decide +kernel
theorem dX3_meanTemper_28 : decode cX3_meanTemper 28 = .ok (.iload_n 1, 1) := by decide +kernel
theorem dX3_meanTemper_29 : decode cX3_meanTemper 29 = .ok (.i2d, 1) := by decide +kernel
theorem dX3_meanTemper_30 : decode cX3_meanTemper 30 = .ok (.ddiv, 1) := by decide +kernel
theorem dX3_meanTemper_31 : decode cX3_meanTemper 31 = .ok (.dreturn, 1) := by decide +kernel
theorem dX3_gradeOfHiss_0 : decode cX3_gradeOfHiss 0 = .ok (.iload_n 0, 1) := by decide +kernel
theorem dX3_gradeOfHiss_1 : decode cX3_gradeOfHiss 1 = .ok (.ifCond .gt 5, 3) := by decide +kernel
theorem dX3_gradeOfHiss_4 : decode cX3_gradeOfHiss 4 = .ok (.iconst 0, 1) := by decide +kernel
theorem dX3_gradeOfHiss_5 : decode cX3_gradeOfHiss 5 = .ok (.ireturn, 1) := by decide +kernel
theorem dX3_gradeOfHiss_6 : decode cX3_gradeOfHiss 6 = .ok (.iload_n 0, 1) := by decide +kernel
theorem dX3_gradeOfHiss_7 : decode cX3_gradeOfHiss 7 = .ok (.iconst 5, 1) := by decide +kernel
theorem dX3_gradeOfHiss_8 : decode cX3_gradeOfHiss 8 = .ok (.if_icmp .gt 5, 3) := by decide +kernel
theorem dX3_gradeOfHiss_11 : decode cX3_gradeOfHiss 11 = .ok (.iconst 1, 1) := by decide +kernel
theorem dX3_gradeOfHiss_12 : decode cX3_gradeOfHiss 12 = .ok (.ireturn, 1) := by decide +kernel
theorem dX3_gradeOfHiss_13 : decode cX3_gradeOfHiss 13 = .ok (.iload_n 0, 1) := by decide +kernel
theorem dX3_gradeOfHiss_14 : decode cX3_gradeOfHiss 14 = .ok (.bipush 10, 2) := by decide +kernel
theorem dX3_gradeOfHiss_16 : decode cX3_gradeOfHiss 16 = .ok (.if_icmp .gt 5, 3) := by decide +kernel
theorem dX3_gradeOfHiss_19 : decode cX3_gradeOfHiss 19 = .ok (.iconst 2, 1) := by decide +kernel
theorem dX3_gradeOfHiss_20 : decode cX3_gradeOfHiss 20 = .ok (.ireturn, 1) := by decide +kernel
theorem dX3_gradeOfHiss_21 : decode cX3_gradeOfHiss 21 = .ok (.iload_n 0, 1) := by decide +kernel
theorem dX3_gradeOfHiss_22 : decode cX3_gradeOfHiss 22 = .ok (.bipush 20, 2) := by decide +kernel
theorem dX3_gradeOfHiss_24 : decode cX3_gradeOfHiss 24 = .ok (.if_icmp .gt 7, 3) := by decide +kernel
theorem dX3_gradeOfHiss_27 : decode cX3_gradeOfHiss 27 = .ok (.iconst 3, 1) := by decide +kernel
theorem dX3_gradeOfHiss_28 : decode cX3_gradeOfHiss 28 = .ok (.goto 4, 3) := by decide +kernel
theorem dX3_gradeOfHiss_31 : decode cX3_gradeOfHiss 31 = .ok (.iconst 4, 1) := by decide +kernel
theorem dX3_gradeOfHiss_32 : decode cX3_gradeOfHiss 32 = .ok (.ireturn, 1) := by decide +kernel
theorem dX3_isWithin_0 : decode cX3_isWithin 0 = .ok (.iload_n 0, 1) := by decide +kernel
theorem dX3_isWithin_1 : decode cX3_isWithin 1 = .ok (.iload_n 1, 1) := by decide +kernel
theorem dX3_isWithin_2 : decode cX3_isWithin 2 = .ok (.if_icmp .lt 12, 3) := by decide +kernel
theorem dX3_isWithin_5 : decode cX3_isWithin 5 = .ok (.iload_n 0, 1) := by decide +kernel
theorem dX3_isWithin_6 : decode cX3_isWithin 6 = .ok (.iload_n 2, 1) := by decide +kernel
theorem dX3_isWithin_7 : decode cX3_isWithin 7 = .ok (.if_icmp .gt 7, 3) := by decide +kernel
theorem dX3_isWithin_10 : decode cX3_isWithin 10 = .ok (.iconst 1, 1) := by decide +kernel
theorem dX3_isWithin_11 : decode cX3_isWithin 11 = .ok (.goto 4, 3) := by decide +kernel
theorem dX3_isWithin_14 : decode cX3_isWithin 14 = .ok (.iconst 0, 1) := by decide +kernel
theorem dX3_isWithin_15 : decode cX3_isWithin 15 = .ok (.ireturn, 1) := by decide +kernel
set_option maxRecDepth 20000 in
theorem ggX3_isRank_X3_isWithin : GoodIn wsX3_isRank wsX3_isWithin := goodIn_r _ [4] (by decide +kernel) (by decide +kernel)
set_option maxRecDepth 20000 in
theorem gX3_isRank_X3_isWithin : GoodIn wsX3_isRank (va_wsS RX3 53 yX3_isWithin wsX3_isWithin) := goodIn_app (goodIn_of _ (by decide +kernel)) ggX3_isRank_X3_isWithin
theorem dX3_isRank_0 : decode cX3_isRank 0 = .ok (.iload_n 0, 1) := by decide +kernel
theorem dX3_isRank_1 : decode cX3_isRank 1 = .ok (.iconst 0, 1) := by decide +kernel
theorem dX3_isRank_2 : decode cX3_isRank 2 = .ok (.bipush 9, 2) := by decide +kernel
theorem dX3_isRank_4 : decode cX3_isRank 4 = .ok (.invokestatic 53, 3) := by decide +kernel
theorem dX3_isRank_7 : decode cX3_isRank 7 = .ok (.ireturn, 1) := by decide +kernel
set_option maxRecDepth 20000 in
theorem ggX3_isNerve_X3_isWithin : GoodIn wsX3_isNerve wsX3_isWithin := goodIn_r _ [4] (by decide +kernel) (by decide +kernel)
set_option maxRecDepth 20000 in
theorem gX3_isNerve_X3_isWithin : GoodIn wsX3_isNerve (va_wsS RX3 53 yX3_isWithin wsX3_isWithin) := goodIn_app (goodIn_of _ (by decide +kernel)) ggX3_isNerve_X3_isWithin
theorem dX3_isNerve_0 : decode cX3_isNerve 0 = .ok (.iload_n 0, 1) := by decide +kernel
theorem dX3_isNerve_1 : decode cX3_isNerve 1 = .ok (.iconst 0, 1) := by decide +kernel
theorem dX3_isNerve_2 : decode cX3_isNerve 2 = .ok (.bipush 20, 2) := by decide +kernel
theorem dX3_isNerve_4 : decode cX3_isNerve 4 = .ok (.invokestatic 53, 3) := by decide +kernel
theorem dX3_isNerve_7 : decode cX3_isNerve 7 = .ok (.ireturn, 1) := by decide +kernel
set_option maxRecDepth 20000 in
theorem ggX3_isBeats_X3_isWithin : GoodIn wsX3_isBeats wsX3_isWithin := goodIn_r _ [4] (by decide +kernel) (by decide +kernel)
set_option maxRecDepth 20000 in
theorem gX3_isBeats_X3_isWithin : GoodIn wsX3_isBeats (va_wsS RX3 53 yX3_isWithin wsX3_isWithin) := goodIn_app (goodIn_of _ (by decide +kernel)) ggX3_isBeats_X3_isWithin
theorem dX3_isBeats_0 : decode cX3_isBeats 0 = .ok (.iload_n 0, 1) := by decide +kernel
theorem dX3_isBeats_1 : decode cX3_isBeats 1 = .ok (.iconst 1, 1) := by decide +kernel
theorem dX3_isBeats_2 : decode cX3_isBeats 2 = .ok (.bipush 60, 2) := by decide +kernel
theorem dX3_isBeats_4 : decode cX3_isBeats 4 = .ok (.invokestatic 53, 3) := by decide +kernel
theorem dX3_isBeats_7 : decode cX3_isBeats 7 = .ok (.ireturn, 1) := by decide +kernel
set_option maxRecDepth 20000 in
theorem ggX3_demandGoose_X1_hasGoose : GoodIn wsX3_demandGoose wsX1_hasGoose := goodIn_r _ [7, 8, 24, 25, 26, 27, 28] (by decide +kernel) (by decide +kernel)
set_option maxRecDepth 20000 in
theorem gX3_demandGoose_X1_hasGoose : GoodIn wsX3_demandGoose (wsV RX3 79 RX1 yX1_hasGoose wsX1_hasGoose) := goodIn_app (goodIn_of _ (by decide +kernel)) ggX3_demandGoose_X1_hasGoose
set_option maxRecDepth 20000 in
theorem ggX3_demandGoose_X3_demandIndex : GoodIn wsX3_demandGoose wsX3_demandIndex := goodIn_ca (goodIn_r _ [12, 13, 14] (by decide +kernel) (by decide +kernel)) (goodIn_sub (fun _ h => List.mem_cons_of_mem _ (List.mem_append_right _ h)) (by decide +kernel))
set_option maxRecDepth 20000 in
theorem gX3_demandGoose_X3_demandIndex : GoodIn wsX3_demandGoose (va_wsS RX3 50 yX3_demandIndex wsX3_demandIndex) := goodIn_app (goodIn_of _ (by decide +kernel)) ggX3_demandGoose_X3_demandIndex
theorem dX3_demandGoose_0 : decode cX3_demandGoose 0 = .ok (.aload_n 0, 1) := by decide +kernel
theorem dX3_demandGoose_1 : decode cX3_demandGoose 1 = .ok (.getfield 10, 3) := by decide +kernel
theorem dX3_demandGoose_4 : decode cX3_demandGoose 4 = .ok (.getfield 57, 3) := by decide +kernel
theorem dX3_demandGoose_7 : decode cX3_demandGoose 7 = .ok (.iload_n 1, 1) := by decide +kernel
theorem dX3_demandGoose_8 : decode cX3_demandGoose 8 = .ok (.invokevirtual 79, 3) := by decide +kernel
theorem dX3_demandGoose_11 : decode cX3_demandGoose 11 = .ok (.invokestatic 50, 3) := by decide +kernel
theorem dX3_demandGoose_14 : decode cX3_demandGoose 14 = .ok (.return_, 1) := by decide +kernel
set_option maxRecDepth 20000 in
theorem ggX3_demandVisitor_X2_hasGuest : GoodIn wsX3_demandVisitor wsX2_hasGuest := goodIn_r _ [7, 8, 24, 25, 26, 27, 28, 29] (by decide +kernel) (by decide +kernel)
set_option maxRecDepth 20000 in
theorem gX3_demandVisitor_X2_hasGuest : GoodIn wsX3_demandVisitor (wsV RX3 259 RX2 yX2_hasGuest wsX2_hasGuest) := goodIn_app (goodIn_of _ (by decide +kernel)) ggX3_demandVisitor_X2_hasGuest
set_option maxRecDepth 20000 in
theorem ggX3_demandVisitor_X3_demandIndex : GoodIn wsX3_demandVisitor wsX3_demandIndex := goodIn_ca (goodIn_r _ [12, 13, 14] (by decide +kernel) (by decide +kernel)) (goodIn_sub (fun _ h => List.mem_cons_of_mem _ (List.mem_append_right _ h)) (by decide +kernel))
set_option maxRecDepth 20000 in
theorem gX3_demandVisitor_X3_demandIndex : GoodIn wsX3_demandVisitor (va_wsS RX3 50 yX3_demandIndex wsX3_demandIndex) := goodIn_app (goodIn_of _ (by decide +kernel)) ggX3_demandVisitor_X3_demandIndex
theorem dX3_demandVisitor_0 : decode cX3_demandVisitor 0 = .ok (.aload_n 0, 1) := by decide +kernel
theorem dX3_demandVisitor_1 : decode cX3_demandVisitor 1 = .ok (.getfield 10, 3) := by decide +kernel
theorem dX3_demandVisitor_4 : decode cX3_demandVisitor 4 = .ok (.getfield 31, 3) := by decide +kernel
theorem dX3_demandVisitor_7 : decode cX3_demandVisitor 7 = .ok (.iload_n 1, 1) := by decide +kernel
theorem dX3_demandVisitor_8 : decode cX3_demandVisitor 8 = .ok (.invokevirtual 259, 3) := by decide +kernel
theorem dX3_demandVisitor_11 : decode cX3_demandVisitor 11 = .ok (.invokestatic 50, 3) := by decide +kernel
theorem dX3_demandVisitor_14 : decode cX3_demandVisitor 14 = .ok (.return_, 1) := by decide +kernel
theorem dX3_demandIndex_0 : decode cX3_demandIndex 0 = .ok (.iload_n 0, 1) := by decide +kernel
theorem dX3_demandIndex_1 : decode cX3_demandIndex 1 = .ok (.ifCond .ne 14, 3) := by decide +kernel
theorem dX3_demandIndex_4 : decode cX3_demandIndex 4 = .ok (.new 262, 3) := by decide +kernel
theorem dX3_demandIndex_7 : decode cX3_demandIndex 7 = .ok (.dup, 1) := by decide +kernel
theorem dX3_demandIndex_8 : decode cX3_demandIndex 8 = .ok (.ldc_w 264, 3) := by decide +kernel
theorem dX3_demandIndex_11 : decode cX3_demandIndex 11 = .ok (.invokespecial 266, 3) := by decide +kernel
theorem dX3_demandIndex_14 : decode cX3_demandIndex 14 = .ok (.athrow, 1) := by decide +kernel
theorem dX3_demandIndex_15 : decode cX3_demandIndex 15 = .ok (.return_, 1) := by decide +kernel
theorem dX3_demandArgument_0 : decode cX3_demandArgument 0 = .ok (.iload_n 0, 1) := by decide +kernel
theorem dX3_demandArgument_1 : decode cX3_demandArgument 1 = .ok (.ifCond .ne 14, 3) := by decide +kernel
theorem dX3_demandArgument_4 : decode cX3_demandArgument 4 = .ok (.new 269, 3) := by decide +kernel
theorem dX3_demandArgument_7 : decode cX3_demandArgument 7 = .ok (.dup, 1) := by decide +kernel
theorem dX3_demandArgument_8 : decode cX3_demandArgument 8 = .ok (.ldc_w 271, 3) := by decide +kernel
theorem dX3_demandArgument_11 : decode cX3_demandArgument 11 = .ok (.invokespecial 273, 3) := by decide +kernel
theorem dX3_demandArgument_14 : decode cX3_demandArgument 14 = .ok (.athrow, 1) := by decide +kernel
theorem dX3_demandArgument_15 : decode cX3_demandArgument 15 = .ok (.return_, 1) := by decide +kernel
theorem dX3_demandState_0 : decode cX3_demandState 0 = .ok (.iload_n 0, 1) := by decide +kernel
theorem dX3_demandState_1 : decode cX3_demandState 1 = .ok (.ifCond .ne 14, 3) := by decide +kernel
theorem dX3_demandState_4 : decode cX3_demandState 4 = .ok (.new 274, 3) := by decide +kernel
theorem dX3_demandState_7 : decode cX3_demandState 7 = .ok (.dup, 1) := by decide +kernel
theorem dX3_demandState_8 : decode cX3_demandState 8 = .ok (.ldc_w 276, 3) := by decide +kernel
theorem dX3_demandState_11 : decode cX3_demandState 11 = .ok (.invokespecial 278, 3) := by decide +kernel
theorem dX3_demandState_14 : decode cX3_demandState 14 = .ok (.athrow, 1) := by decide +kernel
theorem dX3_demandState_15 : decode cX3_demandState 15 = .ok (.return_, 1) := by decide +kernel
