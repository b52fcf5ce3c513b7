set_option maxRecDepth 20000 in
theorem ggX3_init_X0_init : GoodIn wsX3_init wsX0_init := goodIn_r _ [10, 11, 2, 3, 12, 13, 14, 15, 16, 17, 18, 19, 20, 21, 22, 23, 24, 25, 26, 27, 28, 29, 30, 31, 32, 33, 34, 35, 36, 37, 38, 39, 40, 41, 42, 43, 46, 47, 48, 49, 50, 51, 52, 53, 54, 55, 56] (by decide +kernel) (by decide +kernel)
set_option maxRecDepth 20000 in
theorem gX3_init_X0_init_n9 : GoodIn wsX3_init (wsX0_init) := ggX3_init_X0_init
theorem dX3_init_0 : decode cX3_init 0 = .ok (.aload_n 0, 1) := by decide +kernel
theorem dX3_init_1 : decode cX3_init 1 = .ok (.invokespecial 1, 3) := by decide +kernel
theorem dX3_init_4 : decode cX3_init 4 = .ok (.aload_n 0, 1) := by decide +kernel
theorem dX3_init_5 : decode cX3_init 5 = .ok (.new 7, 3) := by decide +kernel
theorem dX3_init_8 : decode cX3_init 8 = .ok (.dup, 1) := by decide +kernel
theorem dX3_init_9 : decode cX3_init 9 = .ok (.invokespecial 9, 3) := by decide +kernel
theorem dX3_init_12 : decode cX3_init 12 = .ok (.putfield 10, 3) := by decide +kernel
theorem dX3_init_15 : decode cX3_init 15 = .ok (.aload_n 0, 1) := by decide +kernel
theorem dX3_init_16 : decode cX3_init 16 = .ok (.new 7, 3) := by decide +kernel
theorem dX3_init_19 : decode cX3_init 19 = .ok (.dup, 1) := by decide +kernel
theorem dX3_init_20 : decode cX3_init 20 = .ok (.invokespecial 9, 3) := by decide +kernel
theorem dX3_init_23 : decode cX3_init 23 = .ok (.putfield 16, 3) := by decide +kernel
theorem dX3_init_26 : decode cX3_init 26 = .ok (.return_, 1) := by decide +kernel
set_option maxRecDepth 20000 in
theorem ggX3_addGate_X3_isRank : GoodIn wsX3_addGate wsX3_isRank := goodIn_r _ [8, 9, 10, 7, 11] (by decide +kernel) (by decide +kernel)
set_option maxRecDepth 20000 in
theorem gX3_addGate_X3_isRank : GoodIn wsX3_addGate (va_wsS RX3 19 yX3_isRank wsX3_isRank) := goodIn_app (goodIn_of _ (by decide +kernel)) ggX3_addGate_X3_isRank
set_option maxRecDepth 20000 in
theorem ggX3_addGate_X3_demandArgument : GoodIn wsX3_addGate wsX3_demandArgument := goodIn_ca (goodIn_r _ [14, 15, 16] (by decide +kernel) (by decide +kernel)) (goodIn_sub (fun _ h => List.mem_cons_of_mem _ (List.mem_append_left _ (List.mem_append_right _ h))) (by decide +kernel))
set_option maxRecDepth 20000 in
theorem gX3_addGate_X3_demandArgument : GoodIn wsX3_addGate (va_wsS RX3 23 yX3_demandArgument wsX3_demandArgument) := goodIn_app (goodIn_of _ (by decide +kernel)) ggX3_addGate_X3_demandArgument
set_option maxRecDepth 20000 in
theorem ggX3_addGate_X3_demandState : GoodIn wsX3_addGate wsX3_demandState := goodIn_ca (goodIn_r _ [19, 20, 21] (by decide +kernel) (by decide +kernel)) (goodIn_sub (fun _ h => List.mem_cons_of_mem _ (List.mem_append_right _ h)) (by decide +kernel))
set_option maxRecDepth 20000 in
theorem gX3_addGate_X3_demandState : GoodIn wsX3_addGate (va_wsS RX3 40 yX3_demandState wsX3_demandState) := goodIn_app (goodIn_of _ (by decide +kernel)) ggX3_addGate_X3_demandState
set_option maxRecDepth 20000 in
theorem ggX3_addGate_X0_putGate : GoodIn wsX3_addGate wsX0_putGate := goodIn_r _ [26, 27, 28, 31, 32, 33, 34, 35, 36, 37] (by decide +kernel) (by decide +kernel)
set_option maxRecDepth 20000 in
theorem gX3_addGate_X0_putGate : GoodIn wsX3_addGate (wsV RX3 43 RX0 yX0_putGate wsX0_putGate) := goodIn_app (goodIn_of _ (by decide +kernel)) ggX3_addGate_X0_putGate
theorem dX3_addGate_0 : decode cX3_addGate 0 = .ok (.iload_n 1, 1) := by decide +kernel
theorem dX3_addGate_1 : decode cX3_addGate 1 = .ok (.invokestatic 19, 3) := by decide +kernel
theorem dX3_addGate_4 : decode cX3_addGate 4 = .ok (.invokestatic 23, 3) := by decide +kernel
theorem dX3_addGate_7 : decode cX3_addGate 7 = .ok (.aload_n 0, 1) := by decide +kernel
theorem dX3_addGate_8 : decode cX3_addGate 8 = .ok (.getfield 10, 3) := by decide +kernel
theorem dX3_addGate_11 : decode cX3_addGate 11 = .ok (.getfield 27, 3) := by decide +kernel
theorem dX3_addGate_14 : decode cX3_addGate 14 = .ok (.bipush 6, 2) := by decide +kernel
theorem dX3_addGate_16 : decode cX3_addGate 16 = .ok (.if_icmp .ge 20, 3) := by decide +kernel
theorem dX3_addGate_19 : decode cX3_addGate 19 = .ok (.aload_n 0, 1) := by decide +kernel
theorem dX3_addGate_20 : decode cX3_addGate 20 = .ok (.getfield 10, 3) := by decide +kernel
theorem dX3_addGate_23 : decode cX3_addGate 23 = .ok (.getfield 31, 3) := by decide +kernel
theorem dX3_addGate_26 : decode cX3_addGate 26 = .ok (.getfield 35, 3) := by decide +kernel
theorem dX3_addGate_29 : decode cX3_addGate 29 = .ok (.ifCond .ne 7, 3) := by decide +kernel
theorem dX3_addGate_32 : decode cX3_addGate 32 = .ok (.iconst 1, 1) := by decide +kernel
theorem dX3_addGate_33 : decode cX3_addGate 33 = .ok (.goto 4, 3) := by decide +kernel
theorem dX3_addGate_36 : decode cX3_addGate 36 = .ok (.iconst 0, 1) := by decide +kernel
theorem dX3_addGate_37 : decode cX3_addGate 37 = .ok (.invokestatic 40, 3) := by decide +kernel
theorem dX3_addGate_40 : decode cX3_addGate 40 = .ok (.aload_n 0, 1) := by decide +kernel
theorem dX3_addGate_41 : decode cX3_addGate 41 = .ok (.getfield 10, 3) := by decide +kernel
theorem dX3_addGate_44 : decode cX3_addGate 44 = .ok (.iload_n 1, 1) := by decide +kernel
theorem dX3_addGate_45 : decode cX3_addGate 45 = .ok (.invokevirtual 43, 3) := by decide +kernel
theorem dX3_addGate_48 : decode cX3_addGate 48 = .ok (.ireturn, 1) := by decide +kernel
set_option maxRecDepth 20000 in
theorem ggX3_addGoose_X0_hasGate : GoodIn wsX3_addGoose wsX0_hasGate := goodIn_r _ [8, 9, 39, 40, 41, 42, 43, 44, 45] (by decide +kernel) (by decide +kernel)
set_option maxRecDepth 20000 in
theorem gX3_addGoose_X0_hasGate : GoodIn wsX3_addGoose (wsV RX3 47 RX0 yX0_hasGate wsX0_hasGate) := goodIn_app (goodIn_of _ (by decide +kernel)) ggX3_addGoose_X0_hasGate
set_option maxRecDepth 20000 in
theorem ggX3_addGoose_X3_demandIndex : GoodIn wsX3_addGoose wsX3_demandIndex := goodIn_ca (goodIn_r _ [13, 14, 15] (by decide +kernel) (by decide +kernel)) (goodIn_sub (fun _ h => List.mem_cons_of_mem _ (List.mem_append_left _ (List.mem_append_left _ (List.mem_append_right _ h)))) (by decide +kernel))
set_option maxRecDepth 20000 in
theorem gX3_addGoose_X3_demandIndex : GoodIn wsX3_addGoose (va_wsS RX3 50 yX3_demandIndex wsX3_demandIndex) := goodIn_app (goodIn_of _ (by decide +kernel)) ggX3_addGoose_X3_demandIndex
set_option maxRecDepth 20000 in
theorem ggX3_addGoose_X3_isWithin : GoodIn wsX3_addGoose wsX3_isWithin := goodIn_r _ [18] (by decide +kernel) (by decide +kernel)
set_option maxRecDepth 20000 in
theorem gX3_addGoose_X3_isWithin : GoodIn wsX3_addGoose (va_wsS RX3 53 yX3_isWithin wsX3_isWithin) := goodIn_app (goodIn_of _ (by decide +kernel)) ggX3_addGoose_X3_isWithin
set_option maxRecDepth 20000 in
theorem ggX3_addGoose_X3_demandArgument : GoodIn wsX3_addGoose wsX3_demandArgument := goodIn_ca (goodIn_r _ [21, 22, 23] (by decide +kernel) (by decide +kernel)) (goodIn_sub (fun _ h => List.mem_cons_of_mem _ (List.mem_append_left _ (List.mem_append_right _ h))) (by decide +kernel))
set_option maxRecDepth 20000 in
theorem gX3_addGoose_X3_demandArgument : GoodIn wsX3_addGoose (va_wsS RX3 23 yX3_demandArgument wsX3_demandArgument) := goodIn_app (goodIn_of _ (by decide +kernel)) ggX3_addGoose_X3_demandArgument
set_option maxRecDepth 20000 in
theorem ggX3_addGoose_X3_demandState : GoodIn wsX3_addGoose wsX3_demandState := goodIn_ca (goodIn_r _ [26, 27, 28] (by decide +kernel) (by decide +kernel)) (goodIn_sub (fun _ h => List.mem_cons_of_mem _ (List.mem_append_right _ h)) (by decide +kernel))
set_option maxRecDepth 20000 in
theorem gX3_addGoose_X3_demandState : GoodIn wsX3_addGoose (va_wsS RX3 40 yX3_demandState wsX3_demandState) := goodIn_app (goodIn_of _ (by decide +kernel)) ggX3_addGoose_X3_demandState
set_option maxRecDepth 20000 in
theorem ggX3_addGoose_X1_putGoose : GoodIn wsX3_addGoose wsX1_putGoose := goodIn_r _ [33, 34, 35, 36, 46, 47, 48, 49, 50] (by decide +kernel) (by decide +kernel)
set_option maxRecDepth 20000 in
theorem gX3_addGoose_X1_putGoose : GoodIn wsX3_addGoose (wsV RX3 64 RX1 yX1_putGoose wsX1_putGoose) := goodIn_app (goodIn_of _ (by decide +kernel)) ggX3_addGoose_X1_putGoose
theorem dX3_addGoose_0 : decode cX3_addGoose 0 = .ok (.aload_n 0, 1) := by decide +kernel
theorem dX3_addGoose_1 : decode cX3_addGoose 1 = .ok (.getfield 10, 3) := by decide +kernel
theorem dX3_addGoose_4 : decode cX3_addGoose 4 = .ok (.iload_n 1, 1) := by decide +kernel
theorem dX3_addGoose_5 : decode cX3_addGoose 5 = .ok (.invokevirtual 47, 3) := by decide +kernel
theorem dX3_addGoose_8 : decode cX3_addGoose 8 = .ok (.invokestatic 50, 3) := by decide +kernel
theorem dX3_addGoose_11 : decode cX3_addGoose 11 = .ok (.iload_n 2, 1) := by decide +kernel
theorem dX3_addGoose_12 : decode cX3_addGoose 12 = .ok (.iconst 1, 1) := by decide +kernel
theorem dX3_addGoose_13 : decode cX3_addGoose 13 = .ok (.bipush 9, 2) := by decide +kernel
theorem dX3_addGoose_15 : decode cX3_addGoose 15 = .ok (.invokestatic 53, 3) := by decide +kernel
theorem dX3_addGoose_18 : decode cX3_addGoose 18 = .ok (.invokestatic 23, 3) := by decide +kernel
theorem dX3_addGoose_21 : decode cX3_addGoose 21 = .ok (.aload_n 0, 1) := by decide +kernel
theorem dX3_addGoose_22 : decode cX3_addGoose 22 = .ok (.getfield 10, 3) := by decide +kernel
theorem dX3_addGoose_25 : decode cX3_addGoose 25 = .ok (.getfield 57, 3) := by decide +kernel
theorem dX3_addGoose_28 : decode cX3_addGoose 28 = .ok (.getfield 61, 3) := by decide +kernel
theorem dX3_addGoose_31 : decode cX3_addGoose 31 = .ok (.bipush 8, 2) := by decide +kernel
theorem dX3_addGoose_33 : decode cX3_addGoose 33 = .ok (.if_icmp .ge 7, 3) := by decide +kernel
theorem dX3_addGoose_36 : decode cX3_addGoose 36 = .ok (.iconst 1, 1) := by decide +kernel
theorem dX3_addGoose_37 : decode cX3_addGoose 37 = .ok (.goto 4, 3) := by decide +kernel
theorem dX3_addGoose_40 : decode cX3_addGoose 40 = .ok (.iconst 0, 1) := by decide +kernel
theorem dX3_addGoose_41 : decode cX3_addGoose 41 = .ok (.invokestatic 40, 3) := by decide +kernel
theorem dX3_addGoose_44 : decode cX3_addGoose 44 = .ok (.aload_n 0, 1) := by decide +kernel
theorem dX3_addGoose_45 : decode cX3_addGoose 45 = .ok (.getfield 10, 3) := by decide +kernel
theorem dX3_addGoose_48 : decode cX3_addGoose 48 = .ok (.getfield 57, 3) := by decide +kernel
theorem dX3_addGoose_51 : decode cX3_addGoose 51 = .ok (.iload_n 1, 1) := by decide +kernel
theorem dX3_addGoose_52 : decode cX3_addGoose 52 = .ok (.iload_n 2, 1) := by decide +kernel
theorem dX3_addGoose_53 : decode cX3_addGoose 53 = .ok (.invokevirtual 64, 3) := by decide +kernel
theorem dX3_addGoose_56 : decode cX3_addGoose 56 = .ok (.ireturn, 1) := by decide +kernel
set_option maxRecDepth 20000 in
theorem ggX3_arrive_X3_isRank : GoodIn wsX3_arrive wsX3_isRank := goodIn_r _ [8, 9, 10, 7, 11] (by decide +kernel) (by decide +kernel)
set_option maxRecDepth 20000 in
theorem gX3_arrive_X3_isRank : GoodIn wsX3_arrive (va_wsS RX3 19 yX3_isRank wsX3_isRank) := goodIn_app (goodIn_of _ (by decide +kernel)) ggX3_arrive_X3_isRank
set_option maxRecDepth 20000 in
theorem ggX3_arrive_X3_isNerve : GoodIn wsX3_arrive wsX3_isNerve := goodIn_r _ [14, 9, 10, 7, 11] (by decide +kernel) (by decide +kernel)
set_option maxRecDepth 20000 in
theorem gX3_arrive_X3_isNerve : GoodIn wsX3_arrive (va_wsS RX3 68 yX3_isNerve wsX3_isNerve) := goodIn_app (goodIn_of _ (by decide +kernel)) ggX3_arrive_X3_isNerve
set_option maxRecDepth 20000 in
theorem ggX3_arrive_X3_isWithin : GoodIn wsX3_arrive wsX3_isWithin := goodIn_r _ [11] (by decide +kernel) (by decide +kernel)
set_option maxRecDepth 20000 in
theorem gX3_arrive_X3_isWithin : GoodIn wsX3_arrive (va_wsS RX3 53 yX3_isWithin wsX3_isWithin) := goodIn_app (goodIn_of _ (by decide +kernel)) ggX3_arrive_X3_isWithin
set_option maxRecDepth 20000 in
theorem ggX3_arrive_X3_demandArgument : GoodIn wsX3_arrive wsX3_demandArgument := goodIn_ca (goodIn_r _ [17, 18, 19] (by decide +kernel) (by decide +kernel)) (goodIn_sub (fun _ h => List.mem_cons_of_mem _ (List.mem_append_left _ (List.mem_append_right _ h))) (by decide +kernel))
set_option maxRecDepth 20000 in
theorem gX3_arrive_X3_demandArgument : GoodIn wsX3_arrive (va_wsS RX3 23 yX3_demandArgument wsX3_demandArgument) := goodIn_app (goodIn_of _ (by decide +kernel)) ggX3_arrive_X3_demandArgument
set_option maxRecDepth 20000 in
theorem ggX3_arrive_X3_demandState : GoodIn wsX3_arrive wsX3_demandState := goodIn_ca (goodIn_r _ [22, 23, 24] (by decide +kernel) (by decide +kernel)) (goodIn_sub (fun _ h => List.mem_cons_of_mem _ (List.mem_append_right _ h)) (by decide +kernel))
set_option maxRecDepth 20000 in
theorem gX3_arrive_X3_demandState : GoodIn wsX3_arrive (va_wsS RX3 40 yX3_demandState wsX3_demandState) := goodIn_app (goodIn_of _ (by decide +kernel)) ggX3_arrive_X3_demandState
set_option maxRecDepth 20000 in
theorem ggX3_arrive_X2_putGuest : GoodIn wsX3_arrive wsX2_putGuest := goodIn_r _ [29, 30, 31, 32, 33, 43, 44, 45, 46, 47, 48] (by decide +kernel) (by decide +kernel)
set_option maxRecDepth 20000 in
theorem gX3_arrive_X2_putGuest : GoodIn wsX3_arrive (wsV RX3 71 RX2 yX2_putGuest wsX2_putGuest) := goodIn_app (goodIn_of _ (by decide +kernel)) ggX3_arrive_X2_putGuest
theorem dX3_arrive_0 : decode cX3_arrive 0 = .ok (.iload_n 1, 1) := by decide +kernel
theorem dX3_arrive_1 : decode cX3_arrive 1 = .ok (.invokestatic 19, 3) := by decide +kernel
theorem dX3_arrive_4 : decode cX3_arrive 4 = .ok (.ifCond .eq 24, 3) := by decide +kernel
theorem dX3_arrive_7 : decode cX3_arrive 7 = .ok (.iload_n 2, 1) := by decide +kernel
theorem dX3_arrive_8 : decode cX3_arrive 8 = .ok (.invokestatic 68, 3) := by decide +kernel
theorem dX3_arrive_11 : decode cX3_arrive 11 = .ok (.ifCond .eq 17, 3) := by decide +kernel
theorem dX3_arrive_14 : decode cX3_arrive 14 = .ok (.iload_n 3, 1) := by decide +kernel
theorem dX3_arrive_15 : decode cX3_arrive 15 = .ok (.iconst 0, 1) := by decide +kernel
theorem dX3_arrive_16 : decode cX3_arrive 16 = .ok (.bipush 20, 2) := by decide +kernel
theorem dX3_arrive_18 : decode cX3_arrive 18 = .ok (.invokestatic 53, 3) := by decide +kernel
theorem dX3_arrive_21 : decode cX3_arrive 21 = .ok (.ifCond .eq 7, 3) := by decide +kernel
theorem dX3_arrive_24 : decode cX3_arrive 24 = .ok (.iconst 1, 1) := by decide +kernel
theorem dX3_arrive_25 : decode cX3_arrive 25 = .ok (.goto 4, 3) := by decide +kernel
theorem dX3_arrive_28 : decode cX3_arrive 28 = .ok (.iconst 0, 1) := by decide +kernel
theorem dX3_arrive_29 : decode cX3_arrive 29 = .ok (.invokestatic 23, 3) := by decide +kernel
theorem dX3_arrive_32 : decode cX3_arrive 32 = .ok (.aload_n 0, 1) := by decide +kernel
theorem dX3_arrive_33 : decode cX3_arrive 33 = .ok (.getfield 10, 3) := by decide +kernel
theorem dX3_arrive_36 : decode cX3_arrive 36 = .ok (.getfield 27, 3) := by decide +kernel
theorem dX3_arrive_39 : decode cX3_arrive 39 = .ok (.ifCond .le 22, 3) := by decide +kernel
theorem dX3_arrive_42 : decode cX3_arrive 42 = .ok (.aload_n 0, 1) := by decide +kernel
theorem dX3_arrive_43 : decode cX3_arrive 43 = .ok (.getfield 10, 3) := by decide +kernel
theorem dX3_arrive_46 : decode cX3_arrive 46 = .ok (.getfield 31, 3) := by decide +kernel
theorem dX3_arrive_49 : decode cX3_arrive 49 = .ok (.getfield 35, 3) := by decide +kernel
theorem dX3_arrive_52 : decode cX3_arrive 52 = .ok (.bipush 8, 2) := by decide +kernel
theorem dX3_arrive_54 : decode cX3_arrive 54 = .ok (.if_icmp .ge 7, 3) := by decide +kernel
theorem dX3_arrive_57 : decode cX3_arrive 57 = .ok (.iconst 1, 1) := by decide +kernel
theorem dX3_arrive_58 : decode cX3_arrive 58 = .ok (.goto 4, 3) := by decide +kernel
theorem dX3_arrive_61 : decode cX3_arrive 61 = .ok (.iconst 0, 1) := by decide +kernel
theorem dX3_arrive_62 : decode cX3_arrive 62 = .ok (.invokestatic 40, 3) := by decide +kernel
theorem dX3_arrive_65 : decode cX3_arrive 65 = .ok (.aload_n 0, 1) := by decide +kernel
theorem dX3_arrive_66 : decode cX3_arrive 66 = .ok (.getfield 10, 3) := by decide +kernel
theorem dX3_arrive_69 : decode cX3_arrive 69 = .ok (.getfield 31, 3) := by decide +kernel
theorem dX3_arrive_72 : decode cX3_arrive 72 = .ok (.iload_n 1, 1) := by decide +kernel
theorem dX3_arrive_73 : decode cX3_arrive 73 = .ok (.iload_n 2, 1) := by decide +kernel
theorem dX3_arrive_74 : decode cX3_arrive 74 = .ok (.iload_n 3, 1) := by decide +kernel
theorem dX3_arrive_75 : decode cX3_arrive 75 = .ok (.invokevirtual 71, 3) := by decide +kernel
theorem dX3_arrive_78 : decode cX3_arrive 78 = .ok (.ireturn, 1) := by decide +kernel
set_option maxRecDepth 20000 in
theorem ggX3_setRank_X0_hasGate : GoodIn wsX3_setRank wsX0_hasGate := goodIn_r _ [7, 8, 28, 29, 30, 31, 32, 33, 34] (by decide +kernel) (by decide +kernel)
set_option maxRecDepth 20000 in
theorem gX3_setRank_X0_hasGate : GoodIn wsX3_setRank (wsV RX3 47 RX0 yX0_hasGate wsX0_hasGate) := goodIn_app (goodIn_of _ (by decide +kernel)) ggX3_setRank_X0_hasGate
set_option maxRecDepth 20000 in
theorem ggX3_setRank_X3_demandIndex : GoodIn wsX3_setRank wsX3_demandIndex := goodIn_ca (goodIn_r _ [12, 13, 14] (by decide +kernel) (by decide +kernel)) (goodIn_sub (fun _ h => List.mem_cons_of_mem _ (List.mem_append_left _ (List.mem_append_right _ h))) (by decide +kernel))
set_option maxRecDepth 20000 in
theorem gX3_setRank_X3_demandIndex : GoodIn wsX3_setRank (va_wsS RX3 50 yX3_demandIndex wsX3_demandIndex) := goodIn_app (goodIn_of _ (by decide +kernel)) ggX3_setRank_X3_demandIndex
set_option maxRecDepth 20000 in
theorem ggX3_setRank_X3_isRank : GoodIn wsX3_setRank wsX3_isRank := goodIn_r _ [17, 18, 19, 11, 20] (by decide +kernel) (by decide +kernel)
set_option maxRecDepth 20000 in
theorem gX3_setRank_X3_isRank : GoodIn wsX3_setRank (va_wsS RX3 19 yX3_isRank wsX3_isRank) := goodIn_app (goodIn_of _ (by decide +kernel)) ggX3_setRank_X3_isRank
set_option maxRecDepth 20000 in
theorem ggX3_setRank_X3_demandArgument : GoodIn wsX3_setRank wsX3_demandArgument := goodIn_ca (goodIn_r _ [23, 24, 25] (by decide +kernel) (by decide +kernel)) (goodIn_sub (fun _ h => List.mem_cons_of_mem _ (List.mem_append_right _ h)) (by decide +kernel))
set_option maxRecDepth 20000 in
theorem gX3_setRank_X3_demandArgument : GoodIn wsX3_setRank (va_wsS RX3 23 yX3_demandArgument wsX3_demandArgument) := goodIn_app (goodIn_of _ (by decide +kernel)) ggX3_setRank_X3_demandArgument
theorem dX3_setRank_0 : decode cX3_setRank 0 = .ok (.aload_n 0, 1) := by decide +kernel
theorem dX3_setRank_1 : decode cX3_setRank 1 = .ok (.getfield 10, 3) := by decide +kernel
theorem dX3_setRank_4 : decode cX3_setRank 4 = .ok (.iload_n 1, 1) := by decide +kernel
theorem dX3_setRank_5 : decode cX3_setRank 5 = .ok (.invokevirtual 47, 3) := by decide +kernel
theorem dX3_setRank_8 : decode cX3_setRank 8 = .ok (.invokestatic 50, 3) := by decide +kernel
theorem dX3_setRank_11 : decode cX3_setRank 11 = .ok (.iload_n 2, 1) := by decide +kernel
theorem dX3_setRank_12 : decode cX3_setRank 12 = .ok (.invokestatic 19, 3) := by decide +kernel
theorem dX3_setRank_15 : decode cX3_setRank 15 = .ok (.invokestatic 23, 3) := by decide +kernel
theorem dX3_setRank_18 : decode cX3_setRank 18 = .ok (.aload_n 0, 1) := by decide +kernel
theorem dX3_setRank_19 : decode cX3_setRank 19 = .ok (.getfield 10, 3) := by decide +kernel
theorem dX3_setRank_22 : decode cX3_setRank 22 = .ok (.getfield 75, 3) := by decide +kernel
theorem dX3_setRank_25 : decode cX3_setRank 25 = .ok (.iload_n 1, 1) := by decide +kernel
theorem dX3_setRank_26 : decode cX3_setRank 26 = .ok (.iaload, 1) := by decide +kernel
theorem dX3_setRank_27 : decode cX3_setRank 27 = .ok (.istore_n 3, 1) := by decide +kernel
theorem dX3_setRank_28 : decode cX3_setRank 28 = .ok (.aload_n 0, 1) := by decide +kernel
theorem dX3_setRank_29 : decode cX3_setRank 29 = .ok (.getfield 10, 3) := by decide +kernel
theorem dX3_setRank_32 : decode cX3_setRank 32 = .ok (.getfield 75, 3) := by decide +kernel
theorem dX3_setRank_35 : decode cX3_setRank 35 = .ok (.iload_n 1, 1) := by decide +kernel
theorem dX3_setRank_36 : decode cX3_setRank 36 = .ok (.iload_n 2, 1) := by decide +kernel
theorem dX3_setRank_37 : decode cX3_setRank 37 = .ok (.iastore, 1) := by decide +kernel
theorem dX3_setRank_38 : decode cX3_setRank 38 = .ok (.iload_n 3, 1) := by decide +kernel
theorem dX3_setRank_39 : decode cX3_setRank 39 = .ok (.ireturn, 1) := by decide +kernel
set_option maxRecDepth 20000 in
theorem ggX3_lead_X1_hasGoose : GoodIn wsX3_lead wsX1_hasGoose := goodIn_r _ [8, 9, 31, 32, 33, 34, 35] (by decide +kernel) (by decide +kernel)
set_option maxRecDepth 20000 in
theorem gX3_lead_X1_hasGoose : GoodIn wsX3_lead (wsV RX3 79 RX1 yX1_hasGoose wsX1_hasGoose) := goodIn_app (goodIn_of _ (by decide +kernel)) ggX3_lead_X1_hasGoose
set_option maxRecDepth 20000 in
theorem ggX3_lead_X0_hasGate : GoodIn wsX3_lead wsX0_hasGate := goodIn_r _ [14, 15, 24, 25, 26, 27, 28, 29, 30] (by decide +kernel) (by decide +kernel)
set_option maxRecDepth 20000 in
theorem gX3_lead_X0_hasGate : GoodIn wsX3_lead (wsV RX3 47 RX0 yX0_hasGate wsX0_hasGate) := goodIn_app (goodIn_of _ (by decide +kernel)) ggX3_lead_X0_hasGate
set_option maxRecDepth 20000 in
theorem ggX3_lead_X3_demandIndex : GoodIn wsX3_lead wsX3_demandIndex := goodIn_ca (goodIn_r _ [19, 20, 21] (by decide +kernel) (by decide +kernel)) (goodIn_sub (fun _ h => List.mem_cons_of_mem _ (List.mem_append_right _ h)) (by decide +kernel))
set_option maxRecDepth 20000 in
theorem gX3_lead_X3_demandIndex : GoodIn wsX3_lead (va_wsS RX3 50 yX3_demandIndex wsX3_demandIndex) := goodIn_app (goodIn_of _ (by decide +kernel)) ggX3_lead_X3_demandIndex
theorem dX3_lead_0 : decode cX3_lead 0 = .ok (.aload_n 0, 1) := by decide +kernel
theorem dX3_lead_1 : decode cX3_lead 1 = .ok (.getfield 10, 3) := by decide +kernel
theorem dX3_lead_4 : decode cX3_lead 4 = .ok (.getfield 57, 3) := by decide +kernel
theorem dX3_lead_7 : decode cX3_lead 7 = .ok (.iload_n 1, 1) := by decide +kernel
theorem dX3_lead_8 : decode cX3_lead 8 = .ok (.invokevirtual 79, 3) := by decide +kernel
theorem dX3_lead_11 : decode cX3_lead 11 = .ok (.ifCond .eq 18, 3) := by decide +kernel
theorem dX3_lead_14 : decode cX3_lead 14 = .ok (.aload_n 0, 1) := by decide +kernel
theorem dX3_lead_15 : decode cX3_lead 15 = .ok (.getfield 10, 3) := by decide +kernel
theorem dX3_lead_18 : decode cX3_lead 18 = .ok (.iload_n 2, 1) := by decide +kernel
theorem dX3_lead_19 : decode cX3_lead 19 = .ok (.invokevirtual 47, 3) := by decide +kernel
theorem dX3_lead_22 : decode cX3_lead 22 = .ok (.ifCond .eq 7, 3) := by decide +kernel
theorem dX3_lead_25 : decode cX3_lead 25 = .ok (.iconst 1, 1) := by decide +kernel
theorem dX3_lead_26 : decode cX3_lead 26 = .ok (.goto 4, 3) := by decide +kernel
theorem dX3_lead_29 : decode cX3_lead 29 = .ok (.iconst 0, 1) := by decide +kernel
theorem dX3_lead_30 : decode cX3_lead 30 = .ok (.invokestatic 50, 3) := by decide +kernel
theorem dX3_lead_33 : decode cX3_lead 33 = .ok (.aload_n 0, 1) := by decide +kernel
theorem dX3_lead_34 : decode cX3_lead 34 = .ok (.getfield 10, 3) := by decide +kernel
theorem dX3_lead_37 : decode cX3_lead 37 = .ok (.getfield 57, 3) := by decide +kernel
theorem dX3_lead_40 : decode cX3_lead 40 = .ok (.getfield 82, 3) := by decide +kernel
theorem dX3_lead_43 : decode cX3_lead 43 = .ok (.iload_n 1, 1) := by decide +kernel
theorem dX3_lead_44 : decode cX3_lead 44 = .ok (.iaload, 1) := by decide +kernel
theorem dX3_lead_45 : decode cX3_lead 45 = .ok (.istore_n 3, 1) := by decide +kernel
theorem dX3_lead_46 : decode cX3_lead 46 = .ok (.aload_n 0, 1) := by decide +kernel
theorem dX3_lead_47 : decode cX3_lead 47 = .ok (.getfield 10, 3) := by decide +kernel
theorem dX3_lead_50 : decode cX3_lead 50 = .ok (.getfield 57, 3) := by decide +kernel
theorem dX3_lead_53 : decode cX3_lead 53 = .ok (.getfield 82, 3) := by decide +kernel
theorem dX3_lead_56 : decode cX3_lead 56 = .ok (.iload_n 1, 1) := by decide +kernel
theorem dX3_lead_57 : decode cX3_lead 57 = .ok (.iload_n 2, 1) := by decide +kernel
theorem dX3_lead_58 : decode cX3_lead 58 = .ok (.iastore, 1) := by decide +kernel
theorem dX3_lead_59 : decode cX3_lead 59 = .ok (.iload_n 3, 1) := by decide +kernel
theorem dX3_lead_60 : decode cX3_lead 60 = .ok (.ireturn, 1) := by decide +kernel
set_option maxRecDepth 20000 in
theorem ggX3_giveCorns_X3_demandVisitor : GoodIn wsX3_giveCorns wsX3_demandVisitor := goodIn_ca (goodIn_r _ [12, 1, 2, 13, 14, 15, 16, 17, 18, 19, 20, 11, 21, 22, 23, 32, 33, 34, 35, 36, 37, 38, 39, 40, 41, 42, 43, 44, 45, 46] (by decide +kernel) (by decide +kernel)) (goodIn_sub (fun _ h => List.mem_cons_of_mem _ (List.mem_append_left _ (List.mem_append_right _ h))) (by decide +kernel))
set_option maxRecDepth 20000 in
theorem gX3_giveCorns_X3_demandVisitor : GoodIn wsX3_giveCorns (wsV RX3 85 RX3 yX3_demandVisitor wsX3_demandVisitor) := goodIn_app (goodIn_of _ (by decide +kernel)) ggX3_giveCorns_X3_demandVisitor
set_option maxRecDepth 20000 in
theorem ggX3_giveCorns_X3_isWithin : GoodIn wsX3_giveCorns wsX3_isWithin := goodIn_r _ [26] (by decide +kernel) (by decide +kernel)
set_option maxRecDepth 20000 in
theorem gX3_giveCorns_X3_isWithin : GoodIn wsX3_giveCorns (va_wsS RX3 53 yX3_isWithin wsX3_isWithin) := goodIn_app (goodIn_of _ (by decide +kernel)) ggX3_giveCorns_X3_isWithin
set_option maxRecDepth 20000 in
theorem ggX3_giveCorns_X3_demandArgument : GoodIn wsX3_giveCorns wsX3_demandArgument := goodIn_ca (goodIn_r _ [29, 30, 31] (by decide +kernel) (by decide +kernel)) (goodIn_sub (fun _ h => List.mem_cons_of_mem _ (List.mem_append_right _ h)) (by decide +kernel))
set_option maxRecDepth 20000 in
theorem gX3_giveCorns_X3_demandArgument : GoodIn wsX3_giveCorns (va_wsS RX3 23 yX3_demandArgument wsX3_demandArgument) := goodIn_app (goodIn_of _ (by decide +kernel)) ggX3_giveCorns_X3_demandArgument
theorem dX3_giveCorns_0 : decode cX3_giveCorns 0 = .ok (.aload_n 0, 1) := by decide +kernel
theorem dX3_giveCorns_1 : decode cX3_giveCorns 1 = .ok (.iload_n 1, 1) := by decide +kernel
theorem dX3_giveCorns_2 : decode cX3_giveCorns 2 = .ok (.invokevirtual 85, 3) := by decide +kernel
theorem dX3_giveCorns_5 : decode cX3_giveCorns 5 = .ok (.iload_n 2, 1) := by decide +kernel
theorem dX3_giveCorns_6 : decode cX3_giveCorns 6 = .ok (.iconst 1, 1) := by decide +kernel
theorem dX3_giveCorns_7 : decode cX3_giveCorns 7 = .ok (.bipush 20, 2) := by decide +kernel
theorem dX3_giveCorns_9 : decode cX3_giveCorns 9 = .ok (.invokestatic 53, 3) := by decide +kernel
theorem dX3_giveCorns_12 : decode cX3_giveCorns 12 = .ok (.invokestatic 23, 3) := by decide +kernel
theorem dX3_giveCorns_15 : decode cX3_giveCorns 15 = .ok (.bipush 20, 2) := by decide +kernel
theorem dX3_giveCorns_17 : decode cX3_giveCorns 17 = .ok (.aload_n 0, 1) := by decide +kernel
theorem dX3_giveCorns_18 : decode cX3_giveCorns 18 = .ok (.getfield 10, 3) := by decide +kernel
theorem dX3_giveCorns_21 : decode cX3_giveCorns 21 = .ok (.getfield 31, 3) := by decide +kernel
theorem dX3_giveCorns_24 : decode cX3_giveCorns 24 = .ok (.getfield 89, 3) := by decide +kernel
theorem dX3_giveCorns_27 : decode cX3_giveCorns 27 = .ok (.iload_n 1, 1) := by decide +kernel
theorem dX3_giveCorns_28 : decode cX3_giveCorns 28 = .ok (.iaload, 1) := by decide +kernel
theorem dX3_giveCorns_29 : decode cX3_giveCorns 29 = .ok (.iload_n 2, 1) := by decide +kernel
theorem dX3_giveCorns_30 : decode cX3_giveCorns 30 = .ok (.iadd, 1) := by decide +kernel
theorem dX3_giveCorns_31 : decode cX3_giveCorns 31 = .ok (.invokestatic 92, 3) := by decide +kernel
theorem dX3_giveCorns_34 : decode cX3_giveCorns 34 = .ok (.istore_n 3, 1) := by decide +kernel
theorem dX3_giveCorns_35 : decode cX3_giveCorns 35 = .ok (.aload_n 0, 1) := by decide +kernel
theorem dX3_giveCorns_36 : decode cX3_giveCorns 36 = .ok (.getfield 10, 3) := by decide +kernel
theorem dX3_giveCorns_39 : decode cX3_giveCorns 39 = .ok (.getfield 31, 3) := by decide +kernel
theorem dX3_giveCorns_42 : decode cX3_giveCorns 42 = .ok (.getfield 89, 3) := by decide +kernel
theorem dX3_giveCorns_45 : decode cX3_giveCorns 45 = .ok (.iload_n 1, 1) := by decide +kernel
theorem dX3_giveCorns_46 : decode cX3_giveCorns 46 = .ok (.iload_n 3, 1) := by decide +kernel
theorem dX3_giveCorns_47 : decode cX3_giveCorns 47 = .ok (.iastore, 1) := by decide +kernel
theorem dX3_giveCorns_48 : decode cX3_giveCorns 48 = .ok (.iload_n 3, 1) := by decide +kernel
theorem dX3_giveCorns_49 : decode cX3_giveCorns 49 = .ok (.ireturn, 1) := by decide +kernel
set_option maxRecDepth 20000 in
theorem ggX3_bribe_X3_demandVisitor : GoodIn wsX3_bribe wsX3_demandVisitor := goodIn_ca (goodIn_r _ [12, 1, 2, 13, 14, 15, 16, 17, 18, 19, 20, 11, 21, 22, 23, 65, 66, 67, 68, 69, 70, 71, 72, 73, 74, 75, 76, 77, 78, 79] (by decide +kernel) (by decide +kernel)) (goodIn_sub (fun _ h => List.mem_cons_of_mem _ (List.mem_append_left _ (List.mem_append_right _ h))) (by decide +kernel))
set_option maxRecDepth 20000 in
theorem gX3_bribe_X3_demandVisitor : GoodIn wsX3_bribe (wsV RX3 85 RX3 yX3_demandVisitor wsX3_demandVisitor) := goodIn_app (goodIn_of _ (by decide +kernel)) ggX3_bribe_X3_demandVisitor
set_option maxRecDepth 20000 in
theorem ggX3_bribe_X3_demandGoose : GoodIn wsX3_bribe wsX3_demandGoose := goodIn_ca (goodIn_r _ [27, 1, 4, 28, 29, 30, 31, 32, 33, 19, 20, 11, 21, 22, 23, 65, 66, 67, 68, 69, 70, 71, 72, 73, 80, 81, 82, 83, 84] (by decide +kernel) (by decide +kernel)) (goodIn_sub (fun _ h => List.mem_cons_of_mem _ (List.mem_append_left _ (List.mem_append_right _ h))) (by decide +kernel))
set_option maxRecDepth 20000 in
theorem gX3_bribe_X3_demandGoose : GoodIn wsX3_bribe (wsV RX3 97 RX3 yX3_demandGoose wsX3_demandGoose) := goodIn_app (goodIn_of _ (by decide +kernel)) ggX3_bribe_X3_demandGoose
set_option maxRecDepth 20000 in
theorem ggX3_bribe_X0_isBehindAll : GoodIn wsX3_bribe wsX0_isBehindAll := goodIn_r _ [38, 39, 40, 41, 67, 68, 69, 70, 71, 72, 73, 74, 75, 76, 77, 78, 79] (by decide +kernel) (by decide +kernel)
set_option maxRecDepth 20000 in
theorem gX3_bribe_X0_isBehindAll : GoodIn wsX3_bribe (wsV RX3 100 RX0 yX0_isBehindAll wsX0_isBehindAll) := goodIn_app (goodIn_of _ (by decide +kernel)) ggX3_bribe_X0_isBehindAll
set_option maxRecDepth 20000 in
theorem ggX3_bribe_X3_demandState : GoodIn wsX3_bribe wsX3_demandState := goodIn_ca (goodIn_r _ [44, 45, 46] (by decide +kernel) (by decide +kernel)) (goodIn_sub (fun _ h => List.mem_cons_of_mem _ (List.mem_append_right _ h)) (by decide +kernel))
set_option maxRecDepth 20000 in
theorem gX3_bribe_X3_demandState : GoodIn wsX3_bribe (va_wsS RX3 40 yX3_demandState wsX3_demandState) := goodIn_app (goodIn_of _ (by decide +kernel)) ggX3_bribe_X3_demandState
set_option maxRecDepth 20000 in
theorem ggX3_bribe_X0_payGoose : GoodIn wsX3_bribe wsX0_payGoose := goodIn_r _ [50, 39, 51, 52, 53, 54, 55, 56, 31, 57, 58, 59, 60, 61, 62, 63, 64, 67, 68, 69, 70, 71, 72, 73, 74, 75, 76, 77, 78, 79, 80, 81, 82, 83, 84] (by decide +kernel) (by decide +kernel)
set_option maxRecDepth 20000 in
theorem gX3_bribe_X0_payGoose : GoodIn wsX3_bribe (wsV RX3 106 RX0 yX0_payGoose wsX0_payGoose) := goodIn_app (goodIn_of _ (by decide +kernel)) ggX3_bribe_X0_payGoose
theorem dX3_bribe_0 : decode cX3_bribe 0 = .ok (.aload_n 0, 1) := by decide +kernel
theorem dX3_bribe_1 : decode cX3_bribe 1 = .ok (.iload_n 1, 1) := by decide +kernel
theorem dX3_bribe_2 : decode cX3_bribe 2 = .ok (.invokevirtual 85, 3) := by decide +kernel
theorem dX3_bribe_5 : decode cX3_bribe 5 = .ok (.aload_n 0, 1) := by decide +kernel
theorem dX3_bribe_6 : decode cX3_bribe 6 = .ok (.iload_n 2, 1) := by decide +kernel
theorem dX3_bribe_7 : decode cX3_bribe 7 = .ok (.invokevirtual 97, 3) := by decide +kernel
theorem dX3_bribe_10 : decode cX3_bribe 10 = .ok (.aload_n 0, 1) := by decide +kernel
theorem dX3_bribe_11 : decode cX3_bribe 11 = .ok (.getfield 10, 3) := by decide +kernel
theorem dX3_bribe_14 : decode cX3_bribe 14 = .ok (.getfield 31, 3) := by decide +kernel
theorem dX3_bribe_17 : decode cX3_bribe 17 = .ok (.getfield 89, 3) := by decide +kernel
theorem dX3_bribe_20 : decode cX3_bribe 20 = .ok (.iload_n 1, 1) := by decide +kernel
theorem dX3_bribe_21 : decode cX3_bribe 21 = .ok (.iaload, 1) := by decide +kernel
theorem dX3_bribe_22 : decode cX3_bribe 22 = .ok (.ifCond .le 45, 3) := by decide +kernel
theorem dX3_bribe_25 : decode cX3_bribe 25 = .ok (.aload_n 0, 1) := by decide +kernel
theorem dX3_bribe_26 : decode cX3_bribe 26 = .ok (.getfield 10, 3) := by decide +kernel
theorem dX3_bribe_29 : decode cX3_bribe 29 = .ok (.iload_n 1, 1) := by decide +kernel
theorem dX3_bribe_30 : decode cX3_bribe 30 = .ok (.invokevirtual 100, 3) := by decide +kernel
theorem dX3_bribe_33 : decode cX3_bribe 33 = .ok (.ifCond .ne 34, 3) := by decide +kernel
theorem dX3_bribe_36 : decode cX3_bribe 36 = .ok (.aload_n 0, 1) := by decide +kernel
theorem dX3_bribe_37 : decode cX3_bribe 37 = .ok (.getfield 10, 3) := by decide +kernel
theorem dX3_bribe_40 : decode cX3_bribe 40 = .ok (.getfield 57, 3) := by decide +kernel
theorem dX3_bribe_43 : decode cX3_bribe 43 = .ok (.getfield 82, 3) := by decide +kernel
theorem dX3_bribe_46 : decode cX3_bribe 46 = .ok (.iload_n 2, 1) := by decide +kernel
theorem dX3_bribe_47 : decode cX3_bribe 47 = .ok (.iaload, 1) := by decide +kernel
theorem dX3_bribe_48 : decode cX3_bribe 48 = .ok (.aload_n 0, 1) := by decide +kernel
theorem dX3_bribe_49 : decode cX3_bribe 49 = .ok (.getfield 10, 3) := by decide +kernel
theorem dX3_bribe_52 : decode cX3_bribe 52 = .ok (.getfield 31, 3) := by decide +kernel
theorem dX3_bribe_55 : decode cX3_bribe 55 = .ok (.getfield 103, 3) := by decide +kernel
theorem dX3_bribe_58 : decode cX3_bribe 58 = .ok (.iload_n 1, 1) := by decide +kernel
theorem dX3_bribe_59 : decode cX3_bribe 59 = .ok (.iaload, 1) := by decide +kernel
theorem dX3_bribe_60 : decode cX3_bribe 60 = .ok (.if_icmp .ne 7, 3) := by decide +kernel
theorem dX3_bribe_63 : decode cX3_bribe 63 = .ok (.iconst 1, 1) := by decide +kernel
theorem dX3_bribe_64 : decode cX3_bribe 64 = .ok (.goto 4, 3) := by decide +kernel
theorem dX3_bribe_67 : decode cX3_bribe 67 = .ok (.iconst 0, 1) := by decide +kernel
theorem dX3_bribe_68 : decode cX3_bribe 68 = .ok (.invokestatic 40, 3) := by decide +kernel
theorem dX3_bribe_71 : decode cX3_bribe 71 = .ok (.aload_n 0, 1) := by decide +kernel
theorem dX3_bribe_72 : decode cX3_bribe 72 = .ok (.getfield 10, 3) := by decide +kernel
theorem dX3_bribe_75 : decode cX3_bribe 75 = .ok (.iload_n 1, 1) := by decide +kernel
theorem dX3_bribe_76 : decode cX3_bribe 76 = .ok (.iload_n 2, 1) := by decide +kernel
theorem dX3_bribe_77 : decode cX3_bribe 77 = .ok (.invokevirtual 106, 3) := by decide +kernel
theorem dX3_bribe_80 : decode cX3_bribe 80 = .ok (.aload_n 0, 1) := by decide +kernel
theorem dX3_bribe_81 : decode cX3_bribe 81 = .ok (.getfield 10, 3) := by decide +kernel
theorem dX3_bribe_84 : decode cX3_bribe 84 = .ok (.getfield 57, 3) := by decide +kernel
theorem dX3_bribe_87 : decode cX3_bribe 87 = .ok (.getfield 110, 3) := by decide +kernel
theorem dX3_bribe_90 : decode cX3_bribe 90 = .ok (.iload_n 2, 1) := by decide +kernel
theorem dX3_bribe_91 : decode cX3_bribe 91 = .ok (.iaload, 1) := by decide +kernel
theorem dX3_bribe_92 : decode cX3_bribe 92 = .ok (.ireturn, 1) := by decide +kernel
set_option maxRecDepth 20000 in
theorem ggX3_passBeats_X3_isBeats : GoodIn wsX3_passBeats wsX3_isBeats := goodIn_r _ [5, 6, 7, 4, 8] (by decide +kernel) (by decide +kernel)
set_option maxRecDepth 20000 in
theorem gX3_passBeats_X3_isBeats : GoodIn wsX3_passBeats (va_wsS RX3 113 yX3_isBeats wsX3_isBeats) := goodIn_app (goodIn_of _ (by decide +kernel)) ggX3_passBeats_X3_isBeats
set_option maxRecDepth 20000 in
theorem ggX3_passBeats_X3_demandArgument : GoodIn wsX3_passBeats wsX3_demandArgument := goodIn_ca (goodIn_r _ [11, 12, 13] (by decide +kernel) (by decide +kernel)) (goodIn_sub (fun _ h => List.mem_cons_of_mem _ (List.mem_append_right _ h)) (by decide +kernel))
set_option maxRecDepth 20000 in
theorem gX3_passBeats_X3_demandArgument : GoodIn wsX3_passBeats (va_wsS RX3 23 yX3_demandArgument wsX3_demandArgument) := goodIn_app (goodIn_of _ (by decide +kernel)) ggX3_passBeats_X3_demandArgument
set_option maxRecDepth 20000 in
theorem ggX3_passBeats_X0_countInside : GoodIn wsX3_passBeats wsX0_countInside := goodIn_r _ [18, 19, 20, 21, 22, 23, 17, 24, 25, 26, 119, 120, 121, 122, 123, 124, 125, 126, 127, 128, 129, 130, 131] (by decide +kernel) (by decide +kernel)
set_option maxRecDepth 20000 in
theorem gX3_passBeats_X0_countInside : GoodIn wsX3_passBeats (wsV RX3 116 RX0 yX0_countInside wsX0_countInside) := goodIn_app (goodIn_of _ (by decide +kernel)) ggX3_passBeats_X0_countInside
set_option maxRecDepth 20000 in
theorem ggX3_passBeats_X0_runBeats : GoodIn wsX3_passBeats wsX0_runBeats := goodIn_r _ [30, 31, 32, 33, 17, 34, 35, 19, 20, 36, 37, 38, 39, 40, 41, 42, 43, 21, 22, 23, 24, 25, 26, 44, 45, 46, 47, 48, 49, 50, 51, 52, 53, 54, 55, 56, 57, 58, 59, 60, 61, 62, 63, 64, 65, 66, 67, 68, 69, 70, 71, 72, 73, 74, 75, 76, 77, 78, 79, 80, 81, 82, 83, 84, 85, 86, 87, 88, 89, 90, 91, 92, 93, 94, 95, 96, 97, 98, 99, 100, 101, 102, 103, 104, 105, 106, 4, 107, 108, 109, 110, 111, 112, 113, 114, 115, 116, 119, 120, 121, 122, 123, 124, 125, 126, 127, 128, 129, 130, 131, 132, 133, 134, 135, 136] (by decide +kernel) (by decide +kernel)
set_option maxRecDepth 20000 in
theorem gX3_passBeats_X0_runBeats : GoodIn wsX3_passBeats (wsV RX3 120 RX0 yX0_runBeats wsX0_runBeats) := goodIn_app (goodIn_of _ (by decide +kernel)) ggX3_passBeats_X0_runBeats
theorem dX3_passBeats_0 : decode cX3_passBeats 0 = .ok (.iload_n 1, 1) := by decide +kernel
theorem dX3_passBeats_1 : decode cX3_passBeats 1 = .ok (.invokestatic 113, 3) := by decide +kernel
theorem dX3_passBeats_4 : decode cX3_passBeats 4 = .ok (.invokestatic 23, 3) := by decide +kernel
theorem dX3_passBeats_7 : decode cX3_passBeats 7 = .ok (.aload_n 0, 1) := by decide +kernel
theorem dX3_passBeats_8 : decode cX3_passBeats 8 = .ok (.getfield 10, 3) := by decide +kernel
theorem dX3_passBeats_11 : decode cX3_passBeats 11 = .ok (.invokevirtual 116, 3) := by decide +kernel
theorem dX3_passBeats_14 : decode cX3_passBeats 14 = .ok (.istore_n 2, 1) := by decide +kernel
theorem dX3_passBeats_15 : decode cX3_passBeats 15 = .ok (.aload_n 0, 1) := by decide +kernel
theorem dX3_passBeats_16 : decode cX3_passBeats 16 = .ok (.getfield 10, 3) := by decide +kernel
theorem dX3_passBeats_19 : decode cX3_passBeats 19 = .ok (.iload_n 1, 1) := by decide +kernel
theorem dX3_passBeats_20 : decode cX3_passBeats 20 = .ok (.invokevirtual 120, 3) := by decide +kernel
theorem dX3_passBeats_23 : decode cX3_passBeats 23 = .ok (.aload_n 0, 1) := by decide +kernel
theorem dX3_passBeats_24 : decode cX3_passBeats 24 = .ok (.getfield 10, 3) := by decide +kernel
theorem dX3_passBeats_27 : decode cX3_passBeats 27 = .ok (.invokevirtual 116, 3) := by decide +kernel
theorem dX3_passBeats_30 : decode cX3_passBeats 30 = .ok (.iload_n 2, 1) := by decide +kernel
theorem dX3_passBeats_31 : decode cX3_passBeats 31 = .ok (.isub, 1) := by decide +kernel
theorem dX3_passBeats_32 : decode cX3_passBeats 32 = .ok (.ireturn, 1) := by decide +kernel
theorem dX3_beats_0 : decode cX3_beats 0 = .ok (.aload_n 0, 1) := by decide +kernel
theorem dX3_beats_1 : decode cX3_beats 1 = .ok (.getfield 10, 3) := by decide +kernel
theorem dX3_beats_4 : decode cX3_beats 4 = .ok (.getfield 123, 3) := by decide +kernel
theorem dX3_beats_7 : decode cX3_beats 7 = .ok (.ireturn, 1) := by decide +kernel
theorem dX3_gates_0 : decode cX3_gates 0 = .ok (.aload_n 0, 1) := by decide +kernel
theorem dX3_gates_1 : decode cX3_gates 1 = .ok (.getfield 10, 3) := by decide +kernel
theorem dX3_gates_4 : decode cX3_gates 4 = .ok (.getfield 27, 3) := by decide +kernel
theorem dX3_gates_7 : decode cX3_gates 7 = .ok (.ireturn, 1) := by decide +kernel
theorem dX3_geese_0 : decode cX3_geese 0 = .ok (.aload_n 0, 1) := by decide +kernel
theorem dX3_geese_1 : decode cX3_geese 1 = .ok (.getfield 10, 3) := by decide +kernel
theorem dX3_geese_4 : decode cX3_geese 4 = .ok (.getfield 57, 3) := by decide +kernel
theorem dX3_geese_7 : decode cX3_geese 7 = .ok (.getfield 61, 3) := by decide +kernel
theorem dX3_geese_10 : decode cX3_geese 10 = .ok (.ireturn, 1) := by decide +kernel
theorem dX3_visitors_0 : decode cX3_visitors 0 = .ok (.aload_n 0, 1) := by decide +kernel
theorem dX3_visitors_1 : decode cX3_visitors 1 = .ok (.getfield 10, 3) := by decide +kernel
theorem dX3_visitors_4 : decode cX3_visitors 4 = .ok (.getfield 31, 3) := by decide +kernel
theorem dX3_visitors_7 : decode cX3_visitors 7 = .ok (.getfield 35, 3) := by decide +kernel
theorem dX3_visitors_10 : decode cX3_visitors 10 = .ok (.ireturn, 1) := by decide +kernel
set_option maxRecDepth 20000 in
theorem ggX3_inFarm_X0_countInside : GoodIn wsX3_inFarm wsX0_countInside := goodIn_r _ [6, 7, 8, 9, 10, 11, 5, 12, 13, 14, 17, 18, 19, 20, 21, 22, 23, 24, 25, 26, 27, 28, 29] (by decide +kernel) (by decide +kernel)
set_option maxRecDepth 20000 in
theorem gX3_inFarm_X0_countInside : GoodIn wsX3_inFarm (wsV RX3 116 RX0 yX0_countInside wsX0_countInside) := goodIn_app (goodIn_of _ (by decide +kernel)) ggX3_inFarm_X0_countInside
theorem dX3_inFarm_0 : decode cX3_inFarm 0 = .ok (.aload_n 0, 1) := by decide +kernel
theorem dX3_inFarm_1 : decode cX3_inFarm 1 = .ok (.getfield 10, 3) := by decide +kernel
theorem dX3_inFarm_4 : decode cX3_inFarm 4 = .ok (.invokevirtual 116, 3) := by decide +kernel
theorem dX3_inFarm_7 : decode cX3_inFarm 7 = .ok (.ireturn, 1) := by decide +kernel
theorem dX3_bribes_0 : decode cX3_bribes 0 = .ok (.aload_n 0, 1) := by decide +kernel
theorem dX3_bribes_1 : decode cX3_bribes 1 = .ok (.getfield 10, 3) := by decide +kernel
theorem dX3_bribes_4 : decode cX3_bribes 4 = .ok (.getfield 126, 3) := by decide +kernel
theorem dX3_bribes_7 : decode cX3_bribes 7 = .ok (.ireturn, 1) := by decide +kernel
theorem dX3_retreats_0 : decode cX3_retreats 0 = .ok (.aload_n 0, 1) := by decide +kernel
theorem dX3_retreats_1 : decode cX3_retreats 1 = .ok (.getfield 10, 3) := by decide +kernel
theorem dX3_retreats_4 : decode cX3_retreats 4 = .ok (.getfield 129, 3) := by decide +kernel
theorem dX3_retreats_7 : decode cX3_retreats 7 = .ok (.ireturn, 1) := by decide +kernel
set_option maxRecDepth 20000 in
theorem ggX3_rankOf_X0_hasGate : GoodIn wsX3_rankOf wsX0_hasGate := goodIn_r _ [7, 8, 17, 18, 19, 20, 21, 22, 23] (by decide +kernel) (by decide +kernel)
set_option maxRecDepth 20000 in
theorem gX3_rankOf_X0_hasGate : GoodIn wsX3_rankOf (wsV RX3 47 RX0 yX0_hasGate wsX0_hasGate) := goodIn_app (goodIn_of _ (by decide +kernel)) ggX3_rankOf_X0_hasGate
set_option maxRecDepth 20000 in
theorem ggX3_rankOf_X3_demandIndex : GoodIn wsX3_rankOf wsX3_demandIndex := goodIn_ca (goodIn_r _ [12, 13, 14] (by decide +kernel) (by decide +kernel)) (goodIn_sub (fun _ h => List.mem_cons_of_mem _ (List.mem_append_right _ h)) (by decide +kernel))
set_option maxRecDepth 20000 in
theorem gX3_rankOf_X3_demandIndex : GoodIn wsX3_rankOf (va_wsS RX3 50 yX3_demandIndex wsX3_demandIndex) := goodIn_app (goodIn_of _ (by decide +kernel)) ggX3_rankOf_X3_demandIndex
theorem dX3_rankOf_0 : decode cX3_rankOf 0 = .ok (.aload_n 0, 1) := by decide +kernel
theorem dX3_rankOf_1 : decode cX3_rankOf 1 = .ok (.getfield 10, 3) := by decide +kernel
theorem dX3_rankOf_4 : decode cX3_rankOf 4 = .ok (.iload_n 1, 1) := by decide +kernel
theorem dX3_rankOf_5 : decode cX3_rankOf 5 = .ok (.invokevirtual 47, 3) := by decide +kernel
theorem dX3_rankOf_8 : decode cX3_rankOf 8 = .ok (.invokestatic 50, 3) := by decide +kernel
theorem dX3_rankOf_11 : decode cX3_rankOf 11 = .ok (.aload_n 0, 1) := by decide +kernel
theorem dX3_rankOf_12 : decode cX3_rankOf 12 = .ok (.getfield 10, 3) := by decide +kernel
theorem dX3_rankOf_15 : decode cX3_rankOf 15 = .ok (.getfield 75, 3) := by decide +kernel
theorem dX3_rankOf_18 : decode cX3_rankOf 18 = .ok (.iload_n 1, 1) := by decide +kernel
theorem dX3_rankOf_19 : decode cX3_rankOf 19 = .ok (.iaload, 1) := by decide +kernel
theorem dX3_rankOf_20 : decode cX3_rankOf 20 = .ok (.ireturn, 1) := by decide +kernel
set_option maxRecDepth 20000 in
theorem ggX3_awakeAt_X0_hasGate : GoodIn wsX3_awakeAt wsX0_hasGate := goodIn_r _ [7, 8, 29, 30, 31, 32, 33, 34, 35] (by decide +kernel) (by decide +kernel)
set_option maxRecDepth 20000 in
theorem gX3_awakeAt_X0_hasGate : GoodIn wsX3_awakeAt (wsV RX3 47 RX0 yX0_hasGate wsX0_hasGate) := goodIn_app (goodIn_of _ (by decide +kernel)) ggX3_awakeAt_X0_hasGate
set_option maxRecDepth 20000 in
theorem ggX3_awakeAt_X3_demandIndex : GoodIn wsX3_awakeAt wsX3_demandIndex := goodIn_ca (goodIn_r _ [12, 13, 14] (by decide +kernel) (by decide +kernel)) (goodIn_sub (fun _ h => List.mem_cons_of_mem _ (List.mem_append_right _ h)) (by decide +kernel))
set_option maxRecDepth 20000 in
theorem gX3_awakeAt_X3_demandIndex : GoodIn wsX3_awakeAt (va_wsS RX3 50 yX3_demandIndex wsX3_demandIndex) := goodIn_app (goodIn_of _ (by decide +kernel)) ggX3_awakeAt_X3_demandIndex
set_option maxRecDepth 20000 in
theorem ggX3_awakeAt_X1_countAwake : GoodIn wsX3_awakeAt wsX1_countAwake := goodIn_r _ [19, 20, 21, 22, 23, 18, 24, 25, 26, 36, 37, 38, 39, 40] (by decide +kernel) (by decide +kernel)
set_option maxRecDepth 20000 in
theorem gX3_awakeAt_X1_countAwake : GoodIn wsX3_awakeAt (wsV RX3 132 RX1 yX1_countAwake wsX1_countAwake) := goodIn_app (goodIn_of _ (by decide +kernel)) ggX3_awakeAt_X1_countAwake
theorem dX3_awakeAt_0 : decode cX3_awakeAt 0 = .ok (.aload_n 0, 1) := by decide +kernel
theorem dX3_awakeAt_1 : decode cX3_awakeAt 1 = .ok (.getfield 10, 3) := by decide +kernel
theorem dX3_awakeAt_4 : decode cX3_awakeAt 4 = .ok (.iload_n 1, 1) := by decide +kernel
theorem dX3_awakeAt_5 : decode cX3_awakeAt 5 = .ok (.invokevirtual 47, 3) := by decide +kernel
theorem dX3_awakeAt_8 : decode cX3_awakeAt 8 = .ok (.invokestatic 50, 3) := by decide +kernel
theorem dX3_awakeAt_11 : decode cX3_awakeAt 11 = .ok (.aload_n 0, 1) := by decide +kernel
theorem dX3_awakeAt_12 : decode cX3_awakeAt 12 = .ok (.getfield 10, 3) := by decide +kernel
theorem dX3_awakeAt_15 : decode cX3_awakeAt 15 = .ok (.getfield 57, 3) := by decide +kernel
theorem dX3_awakeAt_18 : decode cX3_awakeAt 18 = .ok (.iload_n 1, 1) := by decide +kernel
theorem dX3_awakeAt_19 : decode cX3_awakeAt 19 = .ok (.invokevirtual 132, 3) := by decide +kernel
theorem dX3_awakeAt_22 : decode cX3_awakeAt 22 = .ok (.ireturn, 1) := by decide +kernel
set_option maxRecDepth 20000 in
theorem ggX3_hissOf_X0_hasGate : GoodIn wsX3_hissOf wsX0_hasGate := goodIn_r _ [6, 7, 55, 56, 57, 58, 59, 60, 61] (by decide +kernel) (by decide +kernel)
set_option maxRecDepth 20000 in
theorem gX3_hissOf_X0_hasGate : GoodIn wsX3_hissOf (wsV RX3 47 RX0 yX0_hasGate wsX0_hasGate) := goodIn_app (goodIn_of _ (by decide +kernel)) ggX3_hissOf_X0_hasGate
set_option maxRecDepth 20000 in
theorem ggX3_hissOf_X3_demandIndex : GoodIn wsX3_hissOf wsX3_demandIndex := goodIn_ca (goodIn_r _ [11, 12, 13] (by decide +kernel) (by decide +kernel)) (goodIn_sub (fun _ h => List.mem_cons_of_mem _ (List.mem_append_left _ (List.mem_append_right _ h))) (by decide +kernel))
set_option maxRecDepth 20000 in
theorem gX3_hissOf_X3_demandIndex : GoodIn wsX3_hissOf (va_wsS RX3 50 yX3_demandIndex wsX3_demandIndex) := goodIn_app (goodIn_of _ (by decide +kernel)) ggX3_hissOf_X3_demandIndex
set_option maxRecDepth 20000 in
theorem ggX3_hissOf_X3_isRank : GoodIn wsX3_hissOf wsX3_isRank := goodIn_r _ [16, 17, 18, 10, 19] (by decide +kernel) (by decide +kernel)
set_option maxRecDepth 20000 in
theorem gX3_hissOf_X3_isRank : GoodIn wsX3_hissOf (va_wsS RX3 19 yX3_isRank wsX3_isRank) := goodIn_app (goodIn_of _ (by decide +kernel)) ggX3_hissOf_X3_isRank
set_option maxRecDepth 20000 in
theorem ggX3_hissOf_X3_demandArgument : GoodIn wsX3_hissOf wsX3_demandArgument := goodIn_ca (goodIn_r _ [22, 23, 24] (by decide +kernel) (by decide +kernel)) (goodIn_sub (fun _ h => List.mem_cons_of_mem _ (List.mem_append_right _ h)) (by decide +kernel))
set_option maxRecDepth 20000 in
theorem gX3_hissOf_X3_demandArgument : GoodIn wsX3_hissOf (va_wsS RX3 23 yX3_demandArgument wsX3_demandArgument) := goodIn_app (goodIn_of _ (by decide +kernel)) ggX3_hissOf_X3_demandArgument
