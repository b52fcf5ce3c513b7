set_option maxRecDepth 20000 in
theorem ggX3_init_X0_init : GoodIn wsX3_init wsX0_init := goodIn_r _ [10, 11, 2, 3, 12, 13, 14, 15, 16, 17, 18, 19, 20, 21, 22, 23, 24, 25, 26, 27, 28, 29, 30, 31, 32, 33, 34, 35, 36, 37, 38, 39, 40, 41, 42, 43, 46, 47, 48, 49, 50, 51, 52, 53, 54, 55, 56] (by decide +kernel) (by decide +kernel)
set_option maxRecDepth 20000 in
theorem gX3_init_X0_init_n9 : GoodIn wsX3_init (wsX0_init) := ggX3_init_X0_init
theorem dX3_init_0 : decode cX3_init 0 = .ok (.aload_n 0, 1) := by decide +kernel
theorem dX3_init_1 : decode cX3_init 1 = .ok (.invokespecial 1, 3) := by decide +kernel
theorem dX3_init_4 : decode cX3_init 4 = .ok (.aload_n 0, 1) := by decide +kernel
theorem dX3_init_5 : decode cX3_init 5 = .ok (.new 7, 3) := by decide +kernel
theorem dX3_init_8 : decode cX3_init 8 = .ok (.dup, 1) := by decide +kernel
theorem dX3_init_9 : decode cX3_init 9 = .ok (.invokespecial 9, 3) := by decide +kernel
theorem dX3_init_12 : decode cX3_init 12 = .ok (.putfield 10, 3) := by decide +kernel
theorem dX3_init_15 : decode cX3_init 15 = .ok (.aload_n 0, 1) := by decide +kernel
theorem dX3_init_16 : decode cX3_init 16 = .ok (.new 7, 3) := by decide +kernel
theorem dX3_init_19 : decode cX3_init 19 = .ok (.dup, 1) := by decide +kernel
theorem dX3_init_20 : decode cX3_init 20 = .ok (.invokespecial 9, 3) := by decide +kernel
theorem dX3_init_23 : decode cX3_init 23 = .ok (.putfield 16, 3) := by decide +kernel
theorem dX3_init_26 : decode cX3_init 26 = .ok (.return_, 1) := by decide +kernel
set_option maxRecDepth 20000 in
theorem ggX3_addGate_X3_isRank : GoodIn wsX3_addGate wsX3_isRank := goodIn_r _ [8, 9, 10, 7, 11] (by decide +kernel) (by decide +kernel)
set_option maxRecDepth 20000 in
theorem gX3_addGate_X3_isRank : GoodIn wsX3_addGate (va_wsS RX3 19 yX3_isRank wsX3_isRank) := goodIn_app (goodIn_of _ (by decide +kernel)) ggX3_addGate_X3_isRank
set_option maxRecDepth 20000 in
theorem ggX3_addGate_X3_demandArgument : GoodIn wsX3_addGate wsX3_demandArgument := goodIn_ca (goodIn_r _ [14, 15, 16] (by decide +kernel) (by decide +kernel)) (goodIn_sub (fun _ h => List.mem_cons_of_mem _ (List.mem_append_left _ (List.mem_append_right _ h))) (by decide +kernel))
set_option maxRecDepth 20000 in
theorem gX3_addGate_X3_demandArgument : GoodIn wsX3_addGate (va_wsS RX3 23 yX3_demandArgument wsX3_demandArgument) := goodIn_app (goodIn_of _ (by decide +kernel)) ggX3_addGate_X3_demandArgument
set_option maxRecDepth 20000 in
theorem ggX3_addGate_X3_demandState : GoodIn wsX3_addGate wsX3_demandState := goodIn_ca (goodIn_r _ [19, 20, 21] (by decide +kernel) (by decide +kernel)) (goodIn_sub (fun _ h => List.mem_cons_of_mem _ (List.mem_append_right _ h)) (by decide +kernel))
set_option maxRecDepth 20000 in
theorem gX3_addGate_X3_demandState : GoodIn wsX3_addGate (va_wsS RX3 40 yX3_demandState wsX3_demandState) := goodIn_app (goodIn_of _ (by decide +kernel)) ggX3_addGate_X3_demandState
set_option maxRecDepth 20000 in
theorem ggX3_addGate_X0_putGate : GoodIn wsX3_addGate wsX0_putGate := goodIn_r _ [26, 27, 28, 31, 32, 33, 34, 35, 36, 37] (by decide +kernel) (by decide +kernel)
set_option maxRecDepth 20000 in
theorem gX3_addGate_X0_putGate : GoodIn wsX3_addGate (wsV RX3 43 RX0 yX0_putGate wsX0_putGate) := goodIn_app (goodIn_of _ (by decide +kernel)) ggX3_addGate_X0_putGate
theorem dX3_addGate_0 : decode cX3_addGate 0 = .ok (.iload_n 1, 1) := by decide +kernel
theorem dX3_addGate_1 : decode cX3_addGate 1 = .ok (.invokestatic 19, 3) := by decide +kernel
theorem dX3_addGate_4 : decode cX3_addGate 4 = .ok (.invokestatic 23, 3) := by decide +kernel
theorem dX3_addGate_7 : decode cX3_addGate 7 = .ok (.aload_n 0, 1) := by decide +kernel
theorem dX3_addGate_8 : decode cX3_addGate 8 = .ok (.getfield 10, 3) := by decide +kernel
theorem dX3_addGate_11 : decode cX3_addGate 11 = .ok (.getfield 27, 3) := by decide +kernel
theorem dX3_addGate_14 : decode cX3_addGate 14 = .ok (.bipush 6, 2) := by decide +kernel
theorem dX3_addGate_16 : decode cX3_addGate 16 = .ok (.if_icmp .ge 20, 3) := by decide +kernel
theorem dX3_addGate_19 : decode cX3_addGate 19 = .ok (.aload_n 0, 1) := by decide +kernel
theorem dX3_addGate_20 : decode cX3_addGate 20 = .ok (.getfield 10, 3) := by decide +kernel
theorem dX3_addGate_23 : decode cX3_addGate 23 = .ok (.getfield 31, 3) := by decide +kernel
theorem dX3_addGate_26 : decode cX3_addGate 26 = .ok (.getfield 35, 3) := by decide +kernel
theorem dX3_addGate_29 : decode cX3_addGate 29 = .ok (.ifCond .ne 7, 3) := by decide +kernel
theorem dX3_addGate_32 : decode cX3_addGate 32 = .ok (.iconst 1, 1) := by decide +kernel
theorem dX3_addGate_33 : decode cX3_addGate 33 = .ok (.goto 4, 3) := by decide +kernel
theorem dX3_addGate_36 : decode cX3_addGate 36 = .ok (.iconst 0, 1) := by decide +kernel
theorem dX3_addGate_37 : decode cX3_addGate 37 = .ok (.invokestatic 40, 3) := by decide +kernel
theorem dX3_addGate_40 : decode cX3_addGate 40 = .ok (.aload_n 0, 1) := by decide +kernel
theorem dX3_addGate_41 : decode cX3_addGate 41 = .ok (.getfield 10, 3) := by decide +kernel
theorem dX3_addGate_44 : decode cX3_addGate 44 = .ok (.iload_n 1, 1) := by decide +kernel
theorem dX3_addGate_45 : decode cX3_addGate 45 = .ok (.invokevirtual 43, 3) := by decide +kernel
theorem dX3_addGate_48 : decode cX3_addGate 48 = .ok (.ireturn, 1) := by decide +kernel
set_option maxRecDepth 20000 in
theorem ggX3_addGoose_X0_hasGate : GoodIn wsX3_addGoose wsX0_hasGate := goodIn_r _ [8, 9, 39, 40, 41, 42, 43, 44, 45] (by decide +kernel) (by decide +kernel)
set_option maxRecDepth 20000 in
theorem gX3_addGoose_X0_hasGate : GoodIn wsX3_addGoose (wsV RX3 47 RX0 yX0_hasGate wsX0_hasGate) := goodIn_app (goodIn_of _ (by decide +kernel)) ggX3_addGoose_X0_hasGate
set_option maxRecDepth 20000 in
theorem ggX3_addGoose_X3_demandIndex : GoodIn wsX3_addGoose wsX3_demandIndex := goodIn_ca (goodIn_r _ [13, 14, 15] (by decide +kernel) (by decide +kernel)) (goodIn_sub (fun _ h => List.mem_cons_of_mem _ (List.mem_append_left _ (List.mem_append_left _ (List.mem_append_right _ h)))) (by decide +kernel))
set_option maxRecDepth 20000 in
theorem gX3_addGoose_X3_demandIndex : GoodIn wsX3_addGoose (va_wsS RX3 50 yX3_demandIndex wsX3_demandIndex) := goodIn_app (goodIn_of _ (by decide +kernel)) ggX3_addGoose_X3_demandIndex
set_option maxRecDepth 20000 in
theorem ggX3_addGoose_X3_isWithin : GoodIn wsX3_addGoose wsX3_isWithin := goodIn_r _ [18] (by decide +kernel) (by decide +kernel)
set_option maxRecDepth 20000 in
theorem gX3_addGoose_X3_isWithin : GoodIn wsX3_addGoose (va_wsS RX3 53 yX3_isWithin wsX3_isWithin) := goodIn_app (goodIn_of _ (by decide +kernel)) ggX3_addGoose_X3_isWithin
set_option maxRecDepth 20000 in
theorem ggX3_addGoose_X3_demandArgument : GoodIn wsX3_addGoose wsX3_demandArgument := goodIn_ca (goodIn_r _ [21, 22, 23] (by decide +kernel) (by decide +kernel)) (goodIn_sub (fun _ h => List.mem_cons_of_mem _ (List.mem_append_left _ (List.mem_append_right _ h))) (by decide +kernel))
set_option maxRecDepth 20000 in
theorem gX3_addGoose_X3_demandArgument : GoodIn wsX3_addGoose (va_wsS RX3 23 yX3_demandArgument wsX3_demandArgument) := goodIn_app (goodIn_of _ (by decide +kernel)) ggX3_addGoose_X3_demandArgument
set_option maxRecDepth 20000 in
theorem ggX3_addGoose_X3_demandState : GoodIn wsX3_addGoose wsX3_demandState := goodIn_ca (goodIn_r _ [26, 27, 28] (by decide +kernel) (by decide +kernel)) (goodIn_sub (fun _ h => List.mem_cons_of_mem _ (List.mem_append_right _ h)) (by decide +kernel))
set_option maxRecDepth 20000 in
theorem gX3_addGoose_X3_demandState : GoodIn wsX3_addGoose (va_wsS RX3 40 yX3_demandState wsX3_demandState) := goodIn_app (goodIn_of _ (by decide +kernel)) ggX3_addGoose_X3_demandState
set_option maxRecDepth 20000 in
theorem ggX3_addGoose_X1_putGoose : GoodIn wsX3_addGoose wsX1_putGoose := goodIn_r _ [33, 34, 35, 36, 46, 47, 48, 49, 50] (by decide +kernel) (by decide +kernel)
set_option maxRecDepth 20000 in
theorem gX3_addGoose_X1_putGoose : GoodIn wsX3_addGoose (wsV RX3 64 RX1 yX1_putGoose wsX1_putGoose) := goodIn_app (goodIn_of _ (by decide +kernel)) ggX3_addGoose_X1_putGoose
theorem dX3_addGoose_0 : decode cX3_addGoose 0 = .ok (.aload_n 0, 1) := by decide +kernel
theorem dX3_addGoose_1 : decode cX3_addGoose 1 = .ok (.getfield 10, 3) := by decide +kernel
theorem dX3_addGoose_4 : decode cX3_addGoose 4 = .ok (.iload_n 1, 1) := by decide +kernel
theorem dX3_addGoose_5 : decode cX3_addGoose 5 = .ok (.invokevirtual 47, 3) := by decide +kernel
theorem dX3_addGoose_8 : decode cX3_addGoose 8 = .ok (.invokestatic 50, 3) := by decide +kernel
theorem dX3_addGoose_11 : decode cX3_addGoose 11 = .ok (.iload_n 2, 1) := by decide +kernel
theorem dX3_addGoose_12 : decode cX3_addGoose 12 = .ok (.iconst 1, 1) := by decide +kernel
theorem dX3_addGoose_13 : decode cX3_addGoose 13 = .ok (.bipush 9, 2) := by decide +kernel
theorem dX3_addGoose_15 : decode cX3_addGoose 15 = .ok (.invokestatic 53, 3) := by decide +kernel
theorem dX3_addGoose_18 : decode cX3_addGoose 18 = .ok (.invokestatic 23, 3) := by decide +kernel
theorem dX3_addGoose_21 : decode cX3_addGoose 21 = .ok (.aload_n 0, 1) := by decide +kernel
theorem dX3_addGoose_22 : decode cX3_addGoose 22 = .ok (.getfield 10, 3) := by decide +kernel
theorem dX3_addGoose_25 : decode cX3_addGoose 25 = .ok (.getfield 57, 3) := by decide +kernel
theorem dX3_addGoose_28 : decode cX3_addGoose 28 = .ok (.getfield 61, 3) := by decide +kernel
theorem dX3_addGoose_31 : decode cX3_addGoose 31 = .ok (.bipush 8, 2) := by decide +kernel
theorem dX3_addGoose_33 : decode cX3_addGoose 33 = .ok (.if_icmp .ge 7, 3) := by decide +kernel
theorem dX3_addGoose_36 : decode cX3_addGoose 36 = .ok (.iconst 1, 1) := by decide +kernel
theorem dX3_addGoose_37 : decode cX3_addGoose 37 = .ok (.goto 4, 3) := by decide +kernel
theorem dX3_addGoose_40 : decode cX3_addGoose 40 = .ok (.iconst 0, 1) := by decide +kernel
theorem dX3_addGoose_41 : decode cX3_addGoose 41 = .ok (.invokestatic 40, 3) := by decide +kernel
theorem dX3_addGoose_44 : decode cX3_addGoose 44 = .ok (.aload_n 0, 1) := by decide +kernel
theorem dX3_addGoose_45 : decode cX3_addGoose 45 = .ok (.getfield 10, 3) := by decide +kernel
theorem dX3_addGoose_48 : decode cX3_addGoose 48 = .ok (.getfield 57, 3) := by decide +kernel
theorem dX3_addGoose_51 : decode cX3_addGoose 51 = .ok (.iload_n 1, 1) := by decide +kernel
theorem dX3_addGoose_52 : decode cX3_addGoose 52 = .ok (.iload_n 2, 1) := by decide +kernel
theorem dX3_addGoose_53 : decode cX3_addGoose 53 = .ok (.invokevirtual 64, 3) := by decide +kernel
theorem dX3_addGoose_56 : decode cX3_addGoose 56 = .ok (.ireturn, 1) := by decide +kernel
set_option maxRecDepth 20000 in
theorem ggX3_arrive_X3_isRank : GoodIn wsX3_arrive wsX3_isRank := goodIn_r _ [8, 9, 10, 7, 11] (by decide +kernel) (by decide +kernel)
set_option maxRecDepth 20000 in
theorem gX3_arrive_X3_isRank : GoodIn wsX3_arrive (va_wsS RX3 19 yX3_isRank wsX3_isRank) := goodIn_app (goodIn_of _ (by decide +kernel)) ggX3_arrive_X3_isRank
set_option maxRecDepth 20000 in
theorem ggX3_arrive_X3_isNerve : GoodIn wsX3_arrive wsX3_isNerve := goodIn_r _ [14, 9, 10, 7, 11] (by decide +kernel) (by decide +kernel)
set_option maxRecDepth 20000 in
theorem gX3_arrive_X3_isNerve : GoodIn wsX3_arrive (va_wsS RX3 68 yX3_isNerve wsX3_isNerve) := goodIn_app (goodIn_of _ (by decide +kernel)) ggX3_arrive_X3_isNerve
set_option maxRecDepth 20000 in
theorem ggX3_arrive_X3_isWithin : GoodIn wsX3_arrive wsX3_isWithin := goodIn_r _ [11] (by decide +kernel) (by decide +kernel)
set_option maxRecDepth 20000 in
theorem gX3_arrive_X3_isWithin : GoodIn wsX3_arrive (va_wsS RX3 53 yX3_isWithin wsX3_isWithin) := goodIn_app (goodIn_of _ (by decide +kernel)) ggX3_arrive_X3_isWithin
set_option maxRecDepth 20000 in
theorem ggX3_arrive_X3_demandArgument : GoodIn wsX3_arrive wsX3_demandArgument := goodIn_ca (goodIn_r _ [17, 18, 19] (by decide +kernel) (by decide +kernel)) (goodIn_sub (fun _ h => List.mem_cons_of_mem _ (List.mem_append_left _ (List.mem_append_right _ h))) (by decide +kernel))
set_option maxRecDepth 20000 in
theorem gX3_arrive_X3_demandArgument : GoodIn wsX3_arrive (va_wsS RX3 23 yX3_demandArgument wsX3_demandArgument) := goodIn_app (goodIn_of _ (by decide +kernel)) ggX3_arrive_X3_demandArgument
set_option maxRecDepth 20000 in
theorem ggX3_arrive_X3_demandState : GoodIn wsX3_arrive wsX3_demandState := goodIn_ca (goodIn_r _ [22, 23, 24] (by decide +kernel) (by decide +kernel)) (goodIn_sub (fun _ h => List.mem_cons_of_mem _ (List.mem_append_right _ h)) (by decide +kernel))
set_option maxRecDepth 20000 in
theorem gX3_arrive_X3_demandState : GoodIn wsX3_arrive (va_wsS RX3 40 yX3_demandState wsX3_demandState) := goodIn_app (goodIn_of _ (by decide +kernel)) ggX3_arrive_X3_demandState
set_option maxRecDepth 20000 in
theorem ggX3_arrive_X2_putGuest : GoodIn wsX3_arrive wsX2_putGuest := goodIn_r _ [29, 30, 31, 32, 33, 43, 44, 45, 46, 47, 48] (by decide +kernel) (by decide +kernel)
set_option maxRecDepth 20000 in
theorem gX3_arrive_X2_putGuest : GoodIn wsX3_arrive (wsV RX3 71 RX2 yX2_putGuest wsX2_putGuest) := goodIn_app (goodIn_of _ (by decide +kernel)) ggX3_arrive_X2_putGuest
theorem dX3_arrive_0 : decode cX3_arrive 0 = .ok (.iload_n 1, 1) := by decide +kernel
theorem dX3_arrive_1 : decode cX3_arrive 1 = .ok (.invokestatic 19, 3) := by decide +kernel
theorem dX3_arrive_4 : decode cX3_arrive 4 = .ok (.ifCond .eq 24, 3) := by decide +kernel
theorem dX3_arrive_7 : decode cX3_arrive 7 = .ok (.iload_n 2, 1) := by decide +kernel
theorem dX3_arrive_8 : decode cX3_arrive 8 = .ok (.invokestatic 68, 3) := by decide +kernel
theorem dX3_arrive_11 : decode cX3_arrive 11 = .ok (.ifCond .eq 17, 3) := by decide +kernel
theorem dX3_arrive_14 : decode cX3_arrive 14 = .ok (.iload_n 3, 1) := by decide +kernel
theorem dX3_arrive_15 : decode cX3_arrive 15 = .ok (.iconst 0, 1) := by decide +kernel
theorem dX3_arrive_16 : decode cX3_arrive 16 = .ok (.bipush 20, 2) := by decide +kernel
theorem dX3_arrive_18 : decode cX3_arrive 18 = .ok (.invokestatic 53, 3) := by decide +kernel
theorem dX3_arrive_21 : decode cX3_arrive 21 = .ok (.ifCond .eq 7, 3) := by decide +kernel
theorem dX3_arrive_24 : decode cX3_arrive 24 = .ok (.iconst 1, 1) := by decide +kernel
theorem dX3_arrive_25 : decode cX3_arrive 25 = .ok (.goto 4, 3) := by decide +kernel
theorem dX3_arrive_28 : decode cX3_arrive 28 = .ok (.iconst 0, 1) := by decide +kernel
theorem dX3_arrive_29 : decode cX3_arrive 29 = .ok (.invokestatic 23, 3) := by decide +kernel
theorem dX3_arrive_32 : decode cX3_arrive 32 = .ok (.aload_n 0, 1) := by decide +kernel
theorem dX3_arrive_33 : decode cX3_arrive 33 = .ok (.getfield 10, 3) := by decide +kernel
theorem dX3_arrive_36 : decode cX3_arrive 36 = .ok (.getfield 27, 3) := by decide +kernel
theorem dX3_arrive_39 : decode cX3_arrive 39 = .ok (.ifCond .le 22, 3) := by decide +kernel
theorem dX3_arrive_42 : decode cX3_arrive 42 = .ok (.aload_n 0, 1) := by decide +kernel
theorem dX3_arrive_43 : decode cX3_arrive 43 = .ok (.getfield 10, 3) := by decide +kernel
theorem dX3_arrive_46 : decode cX3_arrive 46 = .ok (.getfield 31, 3) := by decide +kernel
theorem dX3_arrive_49 : decode cX3_arrive 49 = .ok (.getfield 35, 3) := by decide +kernel
theorem dX3_arrive_52 : decode cX3_arrive 52 = .ok (.bipush 8, 2) := by decide +kernel
theorem dX3_arrive_54 : decode cX3_arrive 54 = .ok (.if_icmp .ge 7, 3) := by decide +kernel
theorem dX3_arrive_57 : decode cX3_arrive 57 = .ok (.iconst 1, 1) := by decide +kernel
theorem dX3_arrive_58 : decode cX3_arrive 58 = .ok (.goto 4, 3) := by decide +kernel
theorem dX3_arrive_61 : decode cX3_arrive 61 = .ok (.iconst 0, 1) := by decide +kernel
theorem dX3_arrive_62 : decode cX3_arrive 62 = .ok (.invokestatic 40, 3) := by decide +kernel
theorem dX3_arrive_65 : decode cX3_arrive 65 = .ok (.aload_n 0, 1) := by decide +kernel
theorem dX3_arrive_66 : decode cX3_arrive 66 = .ok (.getfield 10, 3) := by decide +kernel
theorem dX3_arrive_69 : decode cX3_arrive 69 = .ok (.getfield 31, 3) := by decide +kernel
theorem dX3_arrive_72 : decode cX3_arrive 72 = .ok (.iload_n 1, 1) := by decide +kernel
theorem dX3_arrive_73 : decode cX3_arrive 73 = .ok (.iload_n 2, 1) := by decide +kernel
theorem dX3_arrive_74 : decode cX3_arrive 74 = .ok (.iload_n 3, 1) := by decide +kernel
theorem dX3_arrive_75 : decode cX3_arrive 75 = .ok (.invokevirtual 71, 3) := by decide +kernel
theorem dX3_arrive_78 : decode cX3_arrive 78 = .ok (.ireturn, 1) := by decide +kernel
set_option maxRecDepth 20000 in
theorem ggX3_setRank_X0_hasGate : GoodIn wsX3_setRank wsX0_hasGate := goodIn_r _ [7, 8, 28, 29, 30, 31, 32, 33, 34] (by decide +kernel) (by decide +kernel)
set_option maxRecDepth 20000 in
theorem gX3_setRank_X0_hasGate : GoodIn wsX3_setRank (wsV RX3 47 RX0 yX0_hasGate wsX0_hasGate) := goodIn_app (goodIn_of _ (by decide +kernel)) ggX3_setRank_X0_hasGate
set_option maxRecDepth 20000 in
theorem ggX3_setRank_X3_demandIndex : GoodIn wsX3_setRank wsX3_demandIndex := goodIn_ca (goodIn_r _ [12, 13, 14] (by decide +kernel) (by decide +kernel)) (goodIn_sub (fun _ h => List.mem_cons_of_mem _ (List.mem_append_left _ (List.mem_append_right _ h))) (by decide +kernel))
set_option maxRecDepth 20000 in
theorem gX3_setRank_X3_demandIndex : GoodIn wsX3_setRank (va_wsS RX3 50 yX3_demandIndex wsX3_demandIndex) := goodIn_app (goodIn_of _ (by decide +kernel)) ggX3_setRank_X3_demandIndex
set_option maxRecDepth 20000 in
theorem ggX3_setRank_X3_isRank : GoodIn wsX3_setRank wsX3_isRank := goodIn_r _ [17, 18, 19, 11, 20] (by decide +kernel) (by decide +kernel)
set_option maxRecDepth 20000 in
theorem gX3_setRank_X3_isRank : GoodIn wsX3_setRank (va_wsS RX3 19 yX3_isRank wsX3_isRank) := goodIn_app (goodIn_of _ (by decide +kernel)) ggX3_setRank_X3_isRank
set_option maxRecDepth 20000 in
theorem ggX3_setRank_X3_demandArgument : GoodIn wsX3_setRank wsX3_demandArgument := goodIn_ca (goodIn_r _ [23, 24, 25] (by decide +kernel) (by decide +kernel)) (goodIn_sub (fun _ h => List.mem_cons_of_mem _ (List.mem_append_right _ h)) (by decide +kernel))
set_option maxRecDepth 20000 in
theorem gX3_setRank_X3_demandArgument : GoodIn wsX3_setRank (va_wsS RX3 23 yX3_demandArgument wsX3_demandArgument) := goodIn_app (goodIn_of _ (by decide +kernel)) ggX3_setRank_X3_demandArgument
theorem dX3_setRank_0 : decode cX3_setRank 0 = .ok (.aload_n 0, 1) := by decide +kernel
theorem dX3_setRank_1 : decode cX3_setRank 1 = .ok (.getfield 10, 3) := by decide +kernel
theorem dX3_setRank_4 : decode cX3_setRank 4 = .ok (.iload_n 1, 1) := by decide +kernel
theorem dX3_setRank_5 : decode cX3_setRank 5 = .ok (.invokevirtual 47, 3) := by decide +kernel
theorem dX3_setRank_8 : decode cX3_setRank 8 = .ok (.invokestatic 50, 3) := by decide +kernel
theorem dX3_setRank_11 : decode cX3_setRank 11 = .ok (.iload_n 2, 1) := by decide +kernel
theorem dX3_setRank_12 : decode cX3_setRank 12 = .ok (.invokestatic 19, 3) := by decide +kernel
theorem dX3_setRank_15 : decode cX3_setRank 15 = .ok (.invokestatic 23, 3) := by decide +kernel
theorem dX3_setRank_18 : decode cX3_setRank 18 = .ok (.aload_n 0, 1) := by decide +kernel
theorem dX3_setRank_19 : decode cX3_setRank 19 = .ok (.getfield 10, 3) := by decide +kernel
theorem dX3_setRank_22 : decode cX3_setRank 22 = .ok (.getfield 75, 3) := by decide +kernel
theorem dX3_setRank_25 : decode cX3_setRank 25 = .ok (.iload_n 1, 1) := by decide +kernel
theorem dX3_setRank_26 : decode cX3_setRank 26 = .ok (.iaload, 1) := by decide +kernel
theorem dX3_setRank_27 : decode cX3_setRank 27 = .ok (.istore_n 3, 1) := by decide +kernel
theorem dX3_setRank_28 : decode cX3_setRank 28 = .ok (.aload_n 0, 1) := by decide +kernel
theorem dX3_setRank_29 : decode cX3_setRank 29 = .ok (.getfield 10, 3) := by decide +kernel
theorem dX3_setRank_32 : decode cX3_setRank 32 = .ok (.getfield 75, 3) := by decide +kernel
theorem dX3_setRank_35 : decode cX3_setRank 35 = .ok (.iload_n 1, 1) := by decide +kernel
theorem dX3_setRank_36 : decode cX3_setRank 36 = .ok (.iload_n 2, 1) := by decide +kernel
theorem dX3_setRank_37 : decode cX3_setRank 37 = .ok (.iastore, 1) := by decide +kernel
theorem dX3_setRank_38 : decode cX3_setRank 38 = .ok (.iload_n 3, 1) := by decide +kernel
theorem dX3_setRank_39 : decode cX3_setRank 39 = .ok (.ireturn, 1) := by decide +kernel
set_option maxRecDepth 20000 in
theorem ggX3_lead_X1_hasGoose : GoodIn wsX3_lead wsX1_hasGoose := goodIn_r _ [8, 9, 31, 32, 33, 34, 35] (by decide +kernel) (by decide +kernel)
set_option maxRecDepth 20000 in
theorem gX3_lead_X1_hasGoose : GoodIn wsX3_lead (wsV RX3 79 RX1 yX1_hasGoose wsX1_hasGoose) := goodIn_app (goodIn_of _ (by decide +kernel)) ggX3_lead_X1_hasGoose
set_option maxRecDepth 20000 in
theorem ggX3_lead_X0_hasGate : GoodIn wsX3_lead wsX0_hasGate := goodIn_r _ [14, 15, 24, 25, 26, 27, 28, 29, 30] (by decide +kernel) (by decide +kernel)
set_option maxRecDepth 20000 in
theorem gX3_lead_X0_hasGate : GoodIn wsX3_lead (wsV RX3 47 RX0 yX0_hasGate wsX0_hasGate) := goodIn_app (goodIn_of _ (by decide +kernel)) ggX3_lead_X0_hasGate
set_option maxRecDepth 20000 in
theorem ggX3_lead_X3_demandIndex : GoodIn wsX3_lead wsX3_demandIndex := goodIn_ca (goodIn_r _ [19, 20, 21] (by decide +kernel) (by decide +kernel)) (goodIn_sub (fun _ h => List.mem_cons_of_mem _ (List.mem_append_right _ h)) (by decide +kernel))
set_option maxRecDepth 20000 in
theorem gX3_lead_X3_demandIndex : GoodIn wsX3_lead (va_wsS RX3 50 yX3_demandIndex wsX3_demandIndex) := goodIn_app (goodIn_of _ (by decide +kernel)) ggX3_lead_X3_demandIndex
theorem dX3_lead_0 : decode cX3_lead 0 = .ok (.aload_n 0, 1) := by decide +kernel
theorem dX3_lead_1 : decode cX3_lead 1 = .ok (.getfield 10, 3) := by decide +kernel
theorem dX3_lead_4 : decode cX3_lead 4 = .ok (.getfield 57, 3) := by decide +kernel
theorem dX3_lead_7 : decode cX3_lead 7 = .ok (.iload_n 1, 1) := by decide +kernel
theorem dX3_lead_8 : decode cX3_lead 8 = .ok (.invokevirtual 79, 3) := by decide +kernel
theorem dX3_lead_11 : decode cX3_lead 11 = .ok (.ifCond .eq 18, 3) := by decide +kernel
theorem dX3_lead_14 : decode cX3_lead 14 = .ok (.aload_n 0, 1) := by decide +kernel
theorem dX3_lead_15 : decode cX3_lead 15 = .ok (.getfield 10, 3) := by decide +kernel
theorem dX3_lead_18 : decode cX3_lead 18 = .ok (.iload_n 2, 1) := by decide +kernel
theorem dX3_lead_19 : decode cX3_lead 19 = .ok (.invokevirtual 47, 3) := by decide +kernel
theorem dX3_lead_22 : decode cX3_lead 22 = .ok (.ifCond .eq 7, 3) := by decide +kernel
theorem dX3_lead_25 : decode cX3_lead 25 = .ok (.iconst 1, 1) := by decide +kernel
theorem dX3_lead_26 : decode cX3_lead 26 = .ok (.goto 4, 3) := by decide +kernel
theorem dX3_lead_29 : decode cX3_lead 29 = .ok (.iconst 0, 1) := by decide +kernel
theorem dX3_lead_30 : decode cX3_lead 30 = .ok (.invokestatic 50, 3) := by decide +kernel
theorem dX3_lead_33 : decode cX3_lead 33 = .ok (.aload_n 0, 1) := by decide +kernel
theorem dX3_lead_34 : decode cX3_lead 34 = .ok (.getfield 10, 3) := by decide +kernel
theorem dX3_lead_37 : decode cX3_lead 37 = .ok (.getfield 57, 3) := by decide +kernel
theorem dX3_lead_40 : decode cX3_lead 40 = .ok (.getfield 82, 3) := by decide +kernel
theorem dX3_lead_43 : decode cX3_lead 43 = .ok (.iload_n 1, 1) := by decide +kernel
theorem dX3_lead_44 : decode cX3_lead 44 = .ok (.iaload, 1) := by decide +kernel
theorem dX3_lead_45 : decode cX3_lead 45 = .ok (.istore_n 3, 1) := by decide +kernel
theorem dX3_lead_46 : decode cX3_lead 46 = .ok (.aload_n 0, 1) := by decide +kernel
theorem dX3_lead_47 : decode cX3_lead 47 = .ok (.getfield 10, 3) := by decide +kernel
theorem dX3_lead_50 : decode cX3_lead 50 = .ok (.getfield 57, 3) := by decide +kernel
theorem dX3_lead_53 : decode cX3_lead 53 = .ok (.getfield 82, 3) := by decide +kernel
theorem dX3_lead_56 : decode cX3_lead 56 = .ok (.iload_n 1, 1) := by decide +kernel
theorem dX3_lead_57 : decode cX3_lead 57 = .ok (.iload_n 2, 1) := by decide +kernel
theorem dX3_lead_58 : decode cX3_lead 58 = .ok (.iastore, 1) := by decide +kernel
theorem dX3_lead_59 : decode cX3_lead 59 = .ok (.iload_n 3, 1) := by decide +kernel
theorem dX3_lead_60 : decode cX3_lead 60 = .ok (.ireturn, 1) := by decide +kernel
set_option maxRecDepth 20000 in
theorem ggX3_giveCorns_X3_demandVisitor : GoodIn wsX3_giveCorns wsX3_demandVisitor := goodIn_ca (goodIn_r _ [12, 1, 2, 13, 14, 15, 16, 17, 18, 19, 20, 11, 21, 22, 23, 32, 33, 34, 35, 36, 37, 38, 39, 40, 41, 42, 43, 44, 45, 46] (by decide +kernel) (by decide +kernel)) (goodIn_sub (fun _ h => List.mem_cons_of_mem _ (List.mem_append_left _ (List.mem_append_right _ h))) (by decide +kernel))
set_option maxRecDepth 20000 in
theorem gX3_giveCorns_X3_demandVisitor : GoodIn wsX3_giveCorns (wsV RX3 85 RX3 yX3_demandVisitor wsX3_demandVisitor) := goodIn_app (goodIn_of _ (by decide +kernel)) ggX3_giveCorns_X3_demandVisitor
set_option maxRecDepth 20000 in
theorem ggX3_giveCorns_X3_isWithin : GoodIn wsX3_giveCorns wsX3_isWithin := goodIn_r _ [26] (by decide +kernel) (by decide +kernel)
set_option maxRecDepth 20000 in
theorem gX3_giveCorns_X3_isWithin : GoodIn wsX3_giveCorns (va_wsS RX3 53 yX3_isWithin wsX3_isWithin) := goodIn_app (goodIn_of _ (by decide +kernel)) ggX3_giveCorns_X3_isWithin
set_option maxRecDepth 20000 in
theorem ggX3_giveCorns_X3_demandArgument : GoodIn wsX3_giveCorns wsX3_demandArgument := goodIn_ca (goodIn_r _ [29, 30, 31] (by decide +kernel) (by decide +kernel)) (goodIn_sub (fun _ h => List.mem_cons_of_mem _ (List.mem_append_right _ h)) (by decide +kernel))
set_option maxRecDepth 20000 in
theorem gX3_giveCorns_X3_demandArgument : GoodIn wsX3_giveCorns (va_wsS RX3 23 yX3_demandArgument wsX3_demandArgument) := goodIn_app (goodIn_of _ (by decide +kernel)) ggX3_giveCorns_X3_demandArgument
theorem dX3_giveCorns_0 : decode cX3_giveCorns 0 = .ok (.aload_n 0, 1) := by decide +kernel
theorem dX3_giveCorns_1 : decode cX3_giveCorns 1 = .ok (.iload_n 1, 1) := by decide +kernel
theorem dX3_giveCorns_2 : decode cX3_giveCorns 2 = .ok (.invokevirtual 85, 3) := by decide +kernel
theorem dX3_giveCorns_5 : decode cX3_giveCorns 5 = .ok (.iload_n 2, 1) := by decide +kernel
theorem dX3_giveCorns_6 : decode cX3_giveCorns 6 = .ok (.iconst 1, 1) := by decide +kernel
theorem dX3_giveCorns_7 : decode cX3_giveCorns 7 = .ok (.bipush 20, 2) := by decide +kernel
theorem dX3_giveCorns_9 : decode cX3_giveCorns 9 = .ok (.invokestatic 53, 3) := by decide +kernel
theorem dX3_giveCorns_12 : decode cX3_giveCorns 12 = .ok (.invokestatic 23, 3) := by decide +kernel
theorem dX3_giveCorns_15 : decode cX3_giveCorns 15 = .ok (.bipush 20, 2) := by decide +kernel
theorem dX3_giveCorns_17 : decode cX3_giveCorns 17 = .ok (.aload_n 0, 1) := by decide +kernel
theorem dX3_giveCorns_18 : decode cX3_giveCorns 18 = .ok (.getfield 10, 3) := by decide +kernel
theorem dX3_giveCorns_21 : decode cX3_giveCorns 21 = .ok (.getfield 31, 3) := by decide +kernel
theorem dX3_giveCorns_24 : decode cX3_giveCorns 24 = .ok (.getfield 89, 3) := by decide +kernel
theorem dX3_giveCorns_27 : decode cX3_giveCorns 27 = .ok (.iload_n 1, 1) := by decide +kernel
theorem dX3_giveCorns_28 : decode cX3_giveCorns 28 = .ok (.iaload, 1) := by decide +kernel
theorem dX3_giveCorns_29 : decode cX3_giveCorns 29 = .ok (.iload_n 2, 1) := by decide +kernel
theorem dX3_giveCorns_30 : decode cX3_giveCorns 30 = .ok (.iadd, 1) := by decide +kernel
theorem dX3_giveCorns_31 : decode cX3_giveCorns 31 = .ok (.invokestatic 92, 3) := by decide +kernel
theorem dX3_giveCorns_34 : decode cX3_giveCorns 34 = .ok (.istore_n 3, 1) := by decide +kernel
theorem dX3_giveCorns_35 : decode cX3_giveCorns 35 = .ok (.aload_n 0, 1) := by decide +kernel
theorem dX3_giveCorns_36 : decode cX3_giveCorns 36 = .ok (.getfield 10, 3) := by decide +kernel
theorem dX3_giveCorns_39 : decode cX3_giveCorns 39 = .ok (.getfield 31, 3) := by decide +kernel
theorem dX3_giveCorns_42 : decode cX3_giveCorns 42 = .ok (.getfield 89, 3) := by decide +kernel
theorem dX3_giveCorns_45 : decode cX3_giveCorns 45 = .ok (.iload_n 1, 1) := by decide +kernel
theorem dX3_giveCorns_46 : decode cX3_giveCorns 46 = .ok (.iload_n 3, 1) := by decide +kernel
theorem dX3_giveCorns_47 : decode cX3_giveCorns 47 = .ok (.iastore, 1) := by decide +kernel
theorem dX3_giveCorns_48 : decode cX3_giveCorns 48 = .ok (.iload_n 3, 1) := by decide +kernel
theorem dX3_giveCorns_49 : decode cX3_giveCorns 49 = .ok (.ireturn, 1) := by decide +kernel
set_option maxRecDepth 20000 in
theorem ggX3_bribe_X3_demandVisitor : GoodIn wsX3_bribe wsX3_demandVisitor := goodIn_ca (goodIn_r _ [12, 1, 2, 13, 14, 15, 16, 17, 18, 19, 20, 11, 21, 22, 23, 65, 66, 67, 68, 69, 70, 71, 72, 73, 74, 75, 76, 77, 78, 79] (by decide +kernel) (by decide +kernel)) (goodIn_sub (fun _ h => List.mem_cons_of_mem _ (List.mem_append_left _ (List.mem_append_right _ h))) (by decide +kernel))
set_option maxRecDepth 20000 in
theorem gX3_bribe_X3_demandVisitor : GoodIn wsX3_bribe (wsV RX3 85 RX3 yX3_demandVisitor wsX3_demandVisitor) := goodIn_app (goodIn_of _ (by decide +kernel)) ggX3_bribe_X3_demandVisitor
set_option maxRecDepth 20000 in
theorem ggX3_bribe_X3_demandGoose : GoodIn wsX3_bribe wsX3_demandGoose := goodIn_ca (goodIn_r _ [27, 1, 4, 28, 29, 30, 31, 32, 33, 19, 20, 11, 21, 22, 23, 65, 66, 67, 68, 69, 70, 71, 72, 73, 80, 81, 82, 83, 84] (by decide +kernel) (by decide +kernel)) (goodIn_sub (fun _ h => List.mem_cons_of_mem _ (List.mem_append_left _ (List.mem_append_right _ h))) (by decide +kernel))
set_option maxRecDepth 20000 in
theorem gX3_bribe_X3_demandGoose : GoodIn wsX3_bribe (wsV RX3 97 RX3 yX3_demandGoose wsX3_demandGoose) := goodIn_app (goodIn_of _ (by decide +kernel)) ggX3_bribe_X3_demandGoose
set_option maxRecDepth 20000 in
theorem ggX3_bribe_X0_isBehindAll : GoodIn wsX3_bribe wsX0_isBehindAll := goodIn_r _ [38, 39, 40, 41, 67, 68, 69, 70, 71, 72, 73, 74, 75, 76, 77, 78, 79] (by decide +kernel) (by decide +kernel)
set_option maxRecDepth 20000 in
theorem gX3_bribe_X0_isBehindAll : GoodIn wsX3_bribe (wsV RX3 100 RX0 yX0_isBehindAll wsX0_isBehindAll) := goodIn_app (goodIn_of _ (by decide +kernel)) ggX3_bribe_X0_isBehindAll
set_option maxRecDepth 20000 in
theorem ggX3_bribe_X3_demandState : GoodIn wsX3_bribe wsX3_demandState := goodIn_ca (goodIn_r _ [44, 45, 46] (by decide +kernel) (by decide +kernel)) (goodIn_sub (fun _ h => List.mem_cons_of_mem _ (List.mem_append_right _ h)) (by decide +kernel))
set_option maxRecDepth 20000 in
theorem gX3_bribe_X3_demandState : GoodIn wsX3_bribe (va_wsS RX3 40 yX3_demandState wsX3_demandState) := goodIn_app (goodIn_of _ (by decide +kernel)) ggX3_bribe_X3_demandState
set_option maxRecDepth 20000 in
theorem ggX3_bribe_X0_payGoose : GoodIn wsX3_bribe wsX0_payGoose := goodIn_r _ [50, 39, 51, 52, 53, 54, 55, 56, 31, 57, 58, 59, 60, 61, 62, 63, 64, 67, 68, 69, 70, 71, 72, 73, 74, 75, 76, 77, 78, 79, 80, 81, 82, 83, 84] (by decide +kernel) (by decide +kernel)
set_option maxRecDepth 20000 in
theorem gX3_bribe_X0_payGoose : GoodIn wsX3_bribe (wsV RX3 106 RX0 yX0_payGoose wsX0_payGoose) := goodIn_app (goodIn_of _ (by decide +kernel)) ggX3_bribe_X0_payGoose
theorem dX3_bribe_0 : decode cX3_bribe 0 = .ok (.aload_n 0, 1) := by decide +kernel
theorem dX3_bribe_1 : decode cX3_bribe 1 = .ok (.iload_n 1, 1) := by decide +kernel
theorem dX3_bribe_2 : decode cX3_bribe 2 = .ok (.invokevirtual 85, 3) := by decide +kernel
theorem dX3_bribe_5 : decode cX3_bribe 5 = .ok (.aload_n 0, 1) := by decide +kernel
theorem dX3_bribe_6 : decode cX3_bribe 6 = .ok (.iload_n 2, 1) := by decide +kernel
theorem dX3_bribe_7 : decode cX3_bribe 7 = .ok (.invokevirtual 97, 3) := by decide +kernel
theorem dX3_bribe_10 : decode cX3_bribe 10 = .ok (.aload_n 0, 1) := by decide +kernel
theorem dX3_bribe_11 : decode cX3_bribe 11 = .ok (.getfield 10, 3) := by decide +kernel
theorem dX3_bribe_14 : decode cX3_bribe 14 = .ok (.getfield 31, 3) := by decide +kernel
theorem dX3_bribe_17 : decode cX3_bribe 17 = .ok (.getfield 89, 3) := by decide +kernel
theorem dX3_bribe_20 : decode cX3_bribe 20 = .ok (.iload_n 1, 1) := by decide +kernel
theorem dX3_bribe_21 : decode cX3_bribe 21 = .ok (.iaload, 1) := by decide +kernel
theorem dX3_bribe_22 : decode cX3_bribe 22 = .ok (.ifCond .le 45, 3) := by decide +kernel
theorem dX3_bribe_25 : decode cX3_bribe 25 = .ok (.aload_n 0, 1) := by decide +kernel
theorem dX3_bribe_26 : decode cX3_bribe 26 = .ok (.getfield 10, 3) := by decide +kernel
theorem dX3_bribe_29 : decode cX3_bribe 29 = .ok (.iload_n 1, 1) := by decide +kernel
theorem dX3_bribe_30 : decode cX3_bribe 30 = .ok (.invokevirtual 100, 3) := by decide +kernel
theorem dX3_bribe_33 : decode cX3_bribe 33 = .ok (.ifCond .ne 34, 3) := by decide +kernel
theorem dX3_bribe_36 : decode cX3_bribe 36 = .ok (.aload_n 0, 1) := by decide +kernel
theorem dX3_bribe_37 : decode cX3_bribe 37 = .ok (.getfield 10, 3) := by decide +kernel
theorem dX3_bribe_40 : decode cX3_bribe 40 = .ok (.getfield 57, 3) := by decide +kernel
theorem dX3_bribe_43 : decode cX3_bribe 43 = .ok (.getfield 82, 3) := by decide +kernel
theorem dX3_bribe_46 : decode cX3_bribe 46 = .ok (.iload_n 2, 1) := by decide +kernel
theorem dX3_bribe_47 : decode cX3_bribe 47 = .ok (.iaload, 1) := by decide +kernel
theorem dX3_bribe_48 : decode cX3_bribe 48 = .ok (.aload_n 0, 1) := by decide +kernel
theorem dX3_bribe_49 : decode cX3_bribe 49 = .ok (.getfield 10, 3) := by decide +kernel
theorem dX3_bribe_52 : decode cX3_bribe 52 = .ok (.getfield 31, 3) := by decide +kernel
theorem dX3_bribe_55 : decode cX3_bribe 55 = .ok (.getfield 103, 3) := by decide +kernel
theorem dX3_bribe_58 : decode cX3_bribe 58 = .ok (.iload_n 1, 1) := by decide +kernel
theorem dX3_bribe_59 : decode cX3_bribe 59 = .ok (.iaload, 1) := by decide +kernel
theorem dX3_bribe_60 : decode cX3_bribe 60 = .ok (.if_icmp .ne 7, 3) := by decide +kernel
theorem dX3_bribe_63 : decode cX3_bribe 63 = .ok (.iconst 1, 1) := by decide +kernel
theorem dX3_bribe_64 : decode cX3_bribe 64 = .ok (.goto 4, 3) := by decide +kernel
theorem dX3_bribe_67 : decode cX3_bribe 67 = .ok (.iconst 0, 1) := by decide +kernel
theorem dX3_bribe_68 : decode cX3_bribe 68 = .ok (.invokestatic 40, 3) := by decide +kernel
theorem dX3_bribe_71 : decode cX3_bribe 71 = .ok (.aload_n 0, 1) := by decide +kernel
theorem dX3_bribe_72 : decode cX3_bribe 72 = .ok (.getfield 10, 3) := by decide +kernel
theorem dX3_bribe_75 : decode cX3_bribe 75 = .ok (.iload_n 1, 1) := by decide +kernel
theorem dX3_bribe_76 : decode cX3_bribe 76 = .ok (.iload_n 2, 1) := by decide +kernel
theorem dX3_bribe_77 : decode cX3_bribe 77 = .ok (.invokevirtual 106, 3) := by decide +kernel
theorem dX3_bribe_80 : decode cX3_bribe 80 = .ok (.aload_n 0, 1) := by decide +kernel
theorem dX3_bribe_81 : decode cX3_bribe 81 = .ok (.getfield 10, 3) := by decide +kernel
theorem dX3_bribe_84 : decode cX3_bribe 84 = .ok (.getfield 57, 3) := by decide +kernel
theorem dX3_bribe_87 : decode cX3_bribe 87 = .ok (.getfield 110, 3) := by decide +kernel
theorem dX3_bribe_90 : decode cX3_bribe 90 = .ok (.iload_n 2, 1) := by decide +kernel
theorem dX3_bribe_91 : decode cX3_bribe 91 = .ok (.iaload, 1) := by decide +kernel
theorem dX3_bribe_92 : decode cX3_bribe 92 = .ok (.ireturn, 1) := by decide +kernel
set_option maxRecDepth 20000 in
theorem ggX3_passBeats_X3_isBeats : GoodIn wsX3_passBeats wsX3_isBeats := goodIn_r _ [5, 6, 7, 4, 8] (by decide +kernel) (by decide +kernel)
set_option maxRecDepth 20000 in
theorem gX3_passBeats_X3_isBeats : GoodIn wsX3_passBeats (va_wsS RX3 113 yX3_isBeats wsX3_isBeats) := goodIn_app (goodIn_of _ (by decide +kernel)) ggX3_passBeats_X3_isBeats
set_option maxRecDepth 20000 in
theorem ggX3_passBeats_X3_demandArgument : GoodIn wsX3_passBeats wsX3_demandArgument := goodIn_ca (goodIn_r _ [11, 12, 13] (by decide +kernel) (by decide +kernel)) (goodIn_sub (fun _ h => List.mem_cons_of_mem _ (List.mem_append_right _ h)) (by decide +kernel))
set_option maxRecDepth 20000 in
theorem gX3_passBeats_X3_demandArgument : GoodIn wsX3_passBeats (va_wsS RX3 23 yX3_demandArgument wsX3_demandArgument) := goodIn_app (goodIn_of _ (by decide +kernel)) ggX3_passBeats_X3_demandArgument
set_option maxRecDepth 20000 in
theorem ggX3_passBeats_X0_countInside : GoodIn wsX3_passBeats wsX0_countInside := goodIn_r _ [18, 19, 20, 21, 22, 23, 17, 24, 25, 26, 119, 120, 121, 122, 123, 124, 125, 126, 127, 128, 129, 130, 131] (by decide +kernel) (by decide +kernel)
set_option maxRecDepth 20000 in
theorem gX3_passBeats_X0_countInside : GoodIn wsX3_passBeats (wsV RX3 116 RX0 yX0_countInside wsX0_countInside) := goodIn_app (goodIn_of _ (by decide +kernel)) ggX3_passBeats_X0_countInside
set_option maxRecDepth 20000 in
theorem ggX3_passBeats_X0_runBeats : GoodIn wsX3_passBeats wsX0_runBeats := goodIn_r _ [30, 31, 32, 33, 17, 34, 35, 19, 20, 36, 37, 38, 39, 40, 41, 42, 43, 21, 22, 23, 24, 25, 26, 44, 45, 46, 47, 48, 49, 50, 51, 52, 53, 54, 55, 56, 57, 58, 59, 60, 61, 62, 63, 64, 65, 66, 67, 68, 69, 70, 71, 72, 73, 74, 75, 76, 77, 78, 79, 80, 81, 82, 83, 84, 85, 86, 87, 88, 89, 90, 91, 92, 93, 94, 95, 96, 97, 98, 99, 100, 101, 102, 103, 104, 105, 106, 4, 107, 108, 109, 110, 111, 112, 113, 114, 115, 116, 119, 120, 121, 122, 123, 124, 125, 126, 127, 128, 129, 130, 131, 132, 133, 134, 135, 136] (by decide +kernel) (by decide +kernel)
set_option maxRecDepth 20000 in
theorem gX3_passBeats_X0_runBeats : GoodIn wsX3_passBeats (wsV RX3 120 RX0 yX0_runBeats wsX0_runBeats) := goodIn_app (goodIn_of _ (by decide +kernel)) ggX3_passBeats_X0_runBeats
theorem dX3_passBeats_0 : decode cX3_passBeats 0 = .ok (.iload_n 1, 1) := by decide +kernel
theorem dX3_passBeats_1 : decode cX3_passBeats 1 = .ok (.invokestatic 113, 3) := by decide +kernel
theorem dX3_passBeats_4 : decode cX3_passBeats 4 = .ok (.invokestatic 23, 3) := by decide +kernel
theorem dX3_passBeats_7 : decode cX3_passBeats 7 = .ok (.aload_n 0, 1) := by decide +kernel
theorem dX3_passBeats_8 : decode cX3_passBeats 8 = .ok (.getfield 10, 3) := by decide +kernel
theorem dX3_passBeats_11 : decode cX3_passBeats 11 = .ok (.invokevirtual 116, 3) := by decide +kernel
theorem dX3_passBeats_14 : decode cX3_passBeats 14 = .ok (.istore_n 2, 1) := by decide +kernel
theorem dX3_passBeats_15 : decode cX3_passBeats 15 = .ok (.aload_n 0, 1) := by decide +kernel
theorem dX3_passBeats_16 : decode cX3_passBeats 16 = .ok (.getfield 10, 3) := by decide +kernel
theorem dX3_passBeats_19 : decode cX3_passBeats 19 = .ok (.iload_n 1, 1) := by decide +kernel
theorem dX3_passBeats_20 : decode cX3_passBeats 20 = .ok (.invokevirtual 120, 3) := by decide +kernel
theorem dX3_passBeats_23 : decode cX3_passBeats 23 = .ok (.aload_n 0, 1) := by decide +kernel
theorem dX3_passBeats_24 : decode cX3_passBeats 24 = .ok (.getfield 10, 3) := by decide +kernel
theorem dX3_passBeats_27 : decode cX3_passBeats 27 = .ok (.invokevirtual 116, 3) := by decide +kernel
theorem dX3_passBeats_30 : decode cX3_passBeats 30 = .ok (.iload_n 2, 1) := by decide +kernel
theorem dX3_passBeats_31 : decode cX3_passBeats 31 = .ok (.isub, 1) := by decide +kernel
theorem dX3_passBeats_32 : decode cX3_passBeats 32 = .ok (.ireturn, 1) := by decide +kernel
theorem dX3_beats_0 : decode cX3_beats 0 = .ok (.aload_n 0, 1) := by decide +kernel
theorem dX3_beats_1 : decode cX3_beats 1 = .ok (.getfield 10, 3) := by decide +kernel
theorem dX3_beats_4 : decode cX3_beats 4 = .ok (.getfield 123, 3) := by decide +kernel
theorem dX3_beats_7 : decode cX3_beats 7 = .ok (.ireturn, 1) := by decide +kernel
theorem dX3_gates_0 : decode cX3_gates 0 = .ok (.aload_n 0, 1) := by decide +kernel
theorem dX3_gates_1 : decode cX3_gates 1 = .ok (.getfield 10, 3) := by decide +kernel
theorem dX3_gates_4 : decode cX3_gates 4 = .ok (.getfield 27, 3) := by decide +kernel
theorem dX3_gates_7 : decode cX3_gates 7 = .ok (.ireturn, 1) := by decide +kernel
theorem dX3_geese_0 : decode cX3_geese 0 = .ok (.aload_n 0, 1) := by decide +kernel
theorem dX3_geese_1 : decode cX3_geese 1 = .ok (.getfield 10, 3) := by decide +kernel
theorem dX3_geese_4 : decode cX3_geese 4 = .ok (.getfield 57, 3) := by decide +kernel
theorem dX3_geese_7 : decode cX3_geese 7 = .ok (.getfield 61, 3) := by decide +kernel
theorem dX3_geese_10 : decode cX3_geese 10 = .ok (.ireturn, 1) := by decide +kernel
theorem dX3_visitors_0 : decode cX3_visitors 0 = .ok (.aload_n 0, 1) := by decide +kernel
theorem dX3_visitors_1 : decode cX3_visitors 1 = .ok (.getfield 10, 3) := by decide +kernel
theorem dX3_visitors_4 : decode cX3_visitors 4 = .ok (.getfield 31, 3) := by decide +kernel
theorem dX3_visitors_7 : decode cX3_visitors 7 = .ok (.getfield 35, 3) := by decide +kernel
theorem dX3_visitors_10 : decode cX3_visitors 10 = .ok (.ireturn, 1) := by decide +kernel
set_option maxRecDepth 20000 in
theorem ggX3_inFarm_X0_countInside : GoodIn wsX3_inFarm wsX0_countInside := goodIn_r _ [6, 7, 8, 9, 10, 11, 5, 12, 13, 14, 17, 18, 19, 20, 21, 22, 23, 24, 25, 26, 27, 28, 29] (by decide +kernel) (by decide +kernel)
set_option maxRecDepth 20000 in
theorem gX3_inFarm_X0_countInside : GoodIn wsX3_inFarm (wsV RX3 116 RX0 yX0_countInside wsX0_countInside) := goodIn_app (goodIn_of _ (by decide +kernel)) ggX3_inFarm_X0_countInside
theorem dX3_inFarm_0 : decode cX3_inFarm 0 = .ok (.aload_n 0, 1) := by decide +kernel
theorem dX3_inFarm_1 : decode cX3_inFarm 1 = .ok (.getfield 10, 3) := by decide +kernel
theorem dX3_inFarm_4 : decode cX3_inFarm 4 = .ok (.invokevirtual 116, 3) := by decide +kernel
theorem dX3_inFarm_7 : decode cX3_inFarm 7 = .ok (.ireturn, 1) := by decide +kernel
theorem dX3_bribes_0 : decode cX3_bribes 0 = .ok (.aload_n 0, 1) := by decide +kernel
theorem dX3_bribes_1 : decode cX3_bribes 1 = .ok (.getfield 10, 3) := by decide +kernel
theorem dX3_bribes_4 : decode cX3_bribes 4 = .ok (.getfield 126, 3) := by decide +kernel
theorem dX3_bribes_7 : decode cX3_bribes 7 = .ok (.ireturn, 1) := by decide +kernel
theorem dX3_retreats_0 : decode cX3_retreats 0 = .ok (.aload_n 0, 1) := by decide +kernel
theorem dX3_retreats_1 : decode cX3_retreats 1 = .ok (.getfield 10, 3) := by decide +kernel
theorem dX3_retreats_4 : decode cX3_retreats 4 = .ok (.getfield 129, 3) := by decide +kernel
theorem dX3_retreats_7 : decode cX3_retreats 7 = .ok (.ireturn, 1) := by decide +kernel
set_option maxRecDepth 20000 in
theorem ggX3_rankOf_X0_hasGate : GoodIn wsX3_rankOf wsX0_hasGate := goodIn_r _ [7, 8, 17, 18, 19, 20, 21, 22, 23] (by decide +kernel) (by decide +kernel)
set_option maxRecDepth 20000 in
theorem gX3_rankOf_X0_hasGate : GoodIn wsX3_rankOf (wsV RX3 47 RX0 yX0_hasGate wsX0_hasGate) := goodIn_app (goodIn_of _ (by decide +kernel)) ggX3_rankOf_X0_hasGate
set_option maxRecDepth 20000 in
theorem ggX3_rankOf_X3_demandIndex : GoodIn wsX3_rankOf wsX3_demandIndex := goodIn_ca (goodIn_r _ [12, 13, 14] (by decide +kernel) (by decide +kernel)) (goodIn_sub (fun _ h => List.mem_cons_of_mem _ (List.mem_append_right _ h)) (by decide +kernel))
set_option maxRecDepth 20000 in
theorem gX3_rankOf_X3_demandIndex : GoodIn wsX3_rankOf (va_wsS RX3 50 yX3_demandIndex wsX3_demandIndex) := goodIn_app (goodIn_of _ (by decide +kernel)) ggX3_rankOf_X3_demandIndex
theorem dX3_rankOf_0 : decode cX3_rankOf 0 = .ok (.aload_n 0, 1) := by decide +kernel
theorem dX3_rankOf_1 : decode cX3_rankOf 1 = .ok (.getfield 10, 3) := by decide +kernel
theorem dX3_rankOf_4 : decode cX3_rankOf 4 = .ok (.iload_n 1, 1) := by decide +kernel
theorem dX3_rankOf_5 : decode cX3_rankOf 5 = .ok (.invokevirtual 47, 3) := by decide +kernel
theorem dX3_rankOf_8 : decode cX3_rankOf 8 = .ok (.invokestatic 50, 3) := by decide +kernel
theorem dX3_rankOf_11 : decode cX3_rankOf 11 = .ok (.aload_n 0, 1) := by decide +kernel
theorem dX3_rankOf_12 : decode cX3_rankOf 12 = .ok (.getfield 10, 3) := by decide +kernel
theorem dX3_rankOf_15 : decode cX3_rankOf 15 = .ok (.getfield 75, 3) := by decide +kernel
theorem dX3_rankOf_18 : decode cX3_rankOf 18 = .ok (.iload_n 1, 1) := by decide +kernel
theorem dX3_rankOf_19 : decode cX3_rankOf 19 = .ok (.iaload, 1) := by decide +kernel
theorem dX3_rankOf_20 : decode cX3_rankOf 20 = .ok (.ireturn, 1) := by decide +kernel
set_option maxRecDepth 20000 in
theorem ggX3_awakeAt_X0_hasGate : GoodIn wsX3_awakeAt wsX0_hasGate := goodIn_r _ [7, 8, 29, 30, 31, 32, 33, 34, 35] (by decide +kernel) (by decide +kernel)
set_option maxRecDepth 20000 in
theorem gX3_awakeAt_X0_hasGate : GoodIn wsX3_awakeAt (wsV RX3 47 RX0 yX0_hasGate wsX0_hasGate) := goodIn_app (goodIn_of _ (by decide +kernel)) ggX3_awakeAt_X0_hasGate
set_option maxRecDepth 20000 in
theorem ggX3_awakeAt_X3_demandIndex : GoodIn wsX3_awakeAt wsX3_demandIndex := goodIn_ca (goodIn_r _ [12, 13, 14] (by decide +kernel) (by decide +kernel)) (goodIn_sub (fun _ h => List.mem_cons_of_mem _ (List.mem_append_right _ h)) (by decide +kernel))
set_option maxRecDepth 20000 in
theorem gX3_awakeAt_X3_demandIndex : GoodIn wsX3_awakeAt (va_wsS RX3 50 yX3_demandIndex wsX3_demandIndex) := goodIn_app (goodIn_of _ (by decide +kernel)) ggX3_awakeAt_X3_demandIndex
set_option maxRecDepth 20000 in
theorem ggX3_awakeAt_X1_countAwake : GoodIn wsX3_awakeAt wsX1_countAwake := goodIn_r _ [19, 20, 21, 22, 23, 18, 24, 25, 26, 36, 37, 38, 39, 40] (by decide +kernel) (by decide +kernel)
set_option maxRecDepth 20000 in
theorem gX3_awakeAt_X1_countAwake : GoodIn wsX3_awakeAt (wsV RX3 132 RX1 yX1_countAwake wsX1_countAwake) := goodIn_app (goodIn_of _ (by decide +kernel)) ggX3_awakeAt_X1_countAwake
theorem dX3_awakeAt_0 : decode cX3_awakeAt 0 = .ok (.aload_n 0, 1) := by decide +kernel
theorem dX3_awakeAt_1 : decode cX3_awakeAt 1 = .ok (.getfield 10, 3) := by decide +kernel
theorem dX3_awakeAt_4 : decode cX3_awakeAt 4 = .ok (.iload_n 1, 1) := by decide +kernel
theorem dX3_awakeAt_5 : decode cX3_awakeAt 5 = .ok (.invokevirtual 47, 3) := by decide +kernel
theorem dX3_awakeAt_8 : decode cX3_awakeAt 8 = .ok (.invokestatic 50, 3) := by decide +kernel
theorem dX3_awakeAt_11 : decode cX3_awakeAt 11 = .ok (.aload_n 0, 1) := by decide +kernel
theorem dX3_awakeAt_12 : decode cX3_awakeAt 12 = .ok (.getfield 10, 3) := by decide +kernel
theorem dX3_awakeAt_15 : decode cX3_awakeAt 15 = .ok (.getfield 57, 3) := by decide +kernel
theorem dX3_awakeAt_18 : decode cX3_awakeAt 18 = .ok (.iload_n 1, 1) := by decide +kernel
theorem dX3_awakeAt_19 : decode cX3_awakeAt 19 = .ok (.invokevirtual 132, 3) := by decide +kernel
theorem dX3_awakeAt_22 : decode cX3_awakeAt 22 = .ok (.ireturn, 1) := by decide +kernel
set_option maxRecDepth 20000 in
theorem ggX3_hissOf_X0_hasGate : GoodIn wsX3_hissOf wsX0_hasGate := goodIn_r _ [6, 7, 55, 56, 57, 58, 59, 60, 61] (by decide +kernel) (by decide +kernel)
set_option maxRecDepth 20000 in
theorem gX3_hissOf_X0_hasGate : GoodIn wsX3_hissOf (wsV RX3 47 RX0 yX0_hasGate wsX0_hasGate) := goodIn_app (goodIn_of _ (by decide +kernel)) ggX3_hissOf_X0_hasGate
set_option maxRecDepth 20000 in
theorem ggX3_hissOf_X3_demandIndex : GoodIn wsX3_hissOf wsX3_demandIndex := goodIn_ca (goodIn_r _ [11, 12, 13] (by decide +kernel) (by decide +kernel)) (goodIn_sub (fun _ h => List.mem_cons_of_mem _ (List.mem_append_left _ (List.mem_append_right _ h))) (by decide +kernel))
set_option maxRecDepth 20000 in
theorem gX3_hissOf_X3_demandIndex : GoodIn wsX3_hissOf (va_wsS RX3 50 yX3_demandIndex wsX3_demandIndex) := goodIn_app (goodIn_of _ (by decide +kernel)) ggX3_hissOf_X3_demandIndex
set_option maxRecDepth 20000 in
theorem ggX3_hissOf_X3_isRank : GoodIn wsX3_hissOf wsX3_isRank := goodIn_r _ [16, 17, 18, 10, 19] (by decide +kernel) (by decide +kernel)
set_option maxRecDepth 20000 in
theorem gX3_hissOf_X3_isRank : GoodIn wsX3_hissOf (va_wsS RX3 19 yX3_isRank wsX3_isRank) := goodIn_app (goodIn_of _ (by decide +kernel)) ggX3_hissOf_X3_isRank
set_option maxRecDepth 20000 in
theorem ggX3_hissOf_X3_demandArgument : GoodIn wsX3_hissOf wsX3_demandArgument := goodIn_ca (goodIn_r _ [22, 23, 24] (by decide +kernel) (by decide +kernel)) (goodIn_sub (fun _ h => List.mem_cons_of_mem _ (List.mem_append_right _ h)) (by decide +kernel))
set_option maxRecDepth 20000 in
theorem gX3_hissOf_X3_demandArgument : GoodIn wsX3_hissOf (va_wsS RX3 23 yX3_demandArgument wsX3_demandArgument) := goodIn_app (goodIn_of _ (by decide +kernel)) ggX3_hissOf_X3_demandArgument
set_option maxRecDepth 20000 in
theorem ggX3_hissOf_X0_gateHiss : GoodIn wsX3_hissOf wsX0_gateHiss := goodIn_r _ [28, 29, 30, 31, 32, 5, 33, 34, 35, 36, 37, 38, 39, 3, 4, 6, 7, 40, 41, 42, 43, 44, 45, 46, 47, 48, 49, 50, 51, 52, 55, 56, 57, 58, 59, 60, 61, 62, 63, 64, 65, 66] (by decide +kernel) (by decide +kernel)
set_option maxRecDepth 20000 in
theorem gX3_hissOf_X0_gateHiss : GoodIn wsX3_hissOf (wsV RX3 135 RX0 yX0_gateHiss wsX0_gateHiss) := goodIn_app (goodIn_of _ (by decide +kernel)) ggX3_hissOf_X0_gateHiss
theorem dX3_hissOf_0 : decode cX3_hissOf 0 = .ok (.aload_n 0, 1) := by decide +kernel
theorem dX3_hissOf_1 : decode cX3_hissOf 1 = .ok (.getfield 10, 3) := by decide +kernel
theorem dX3_hissOf_4 : decode cX3_hissOf 4 = .ok (.iload_n 1, 1) := by decide +kernel
theorem dX3_hissOf_5 : decode cX3_hissOf 5 = .ok (.invokevirtual 47, 3) := by decide +kernel
theorem dX3_hissOf_8 : decode cX3_hissOf 8 = .ok (.invokestatic 50, 3) := by decide +kernel
theorem dX3_hissOf_11 : decode cX3_hissOf 11 = .ok (.iload_n 2, 1) := by decide +kernel
theorem dX3_hissOf_12 : decode cX3_hissOf 12 = .ok (.invokestatic 19, 3) := by decide +kernel
theorem dX3_hissOf_15 : decode cX3_hissOf 15 = .ok (.invokestatic 23, 3) := by decide +kernel
theorem dX3_hissOf_18 : decode cX3_hissOf 18 = .ok (.aload_n 0, 1) := by decide +kernel
theorem dX3_hissOf_19 : decode cX3_hissOf 19 = .ok (.getfield 10, 3) := by decide +kernel
theorem dX3_hissOf_22 : decode cX3_hissOf 22 = .ok (.iload_n 1, 1) := by decide +kernel
theorem dX3_hissOf_23 : decode cX3_hissOf 23 = .ok (.iload_n 2, 1) := by decide +kernel
theorem dX3_hissOf_24 : decode cX3_hissOf 24 = .ok (.invokevirtual 135, 3) := by decide +kernel
theorem dX3_hissOf_27 : decode cX3_hissOf 27 = .ok (.ireturn, 1) := by decide +kernel
set_option maxRecDepth 20000 in
theorem ggX3_loudestGate_X0_gateHiss : GoodIn wsX3_loudestGate wsX0_gateHiss := goodIn_r _ [7, 8, 9, 10, 11, 6, 12, 13, 14, 15, 16, 17, 18, 19, 20, 21, 22, 23, 24, 25, 26, 27, 28, 29, 30, 31, 32, 33, 34, 35, 38, 39, 40, 41, 42, 43, 44, 45, 46, 47, 48, 49] (by decide +kernel) (by decide +kernel)
set_option maxRecDepth 20000 in
theorem gX3_loudestGate_X0_gateHiss : GoodIn wsX3_loudestGate (wsV RX3 135 RX0 yX0_gateHiss wsX0_gateHiss) := goodIn_app (goodIn_of _ (by decide +kernel)) ggX3_loudestGate_X0_gateHiss
theorem dX3_loudestGate_0 : decode cX3_loudestGate 0 = .ok (.iconst (-1), 1) := by decide +kernel
theorem dX3_loudestGate_1 : decode cX3_loudestGate 1 = .ok (.istore_n 1, 1) := by decide +kernel
theorem dX3_loudestGate_2 : decode cX3_loudestGate 2 = .ok (.iconst (-1), 1) := by decide +kernel
theorem dX3_loudestGate_3 : decode cX3_loudestGate 3 = .ok (.istore_n 2, 1) := by decide +kernel
theorem dX3_loudestGate_4 : decode cX3_loudestGate 4 = .ok (.iconst 0, 1) := by decide +kernel
theorem dX3_loudestGate_5 : decode cX3_loudestGate 5 = .ok (.istore_n 3, 1) := by decide +kernel
theorem dX3_loudestGate_6 : decode cX3_loudestGate 6 = .ok (.iload_n 3, 1) := by decide +kernel
theorem dX3_loudestGate_7 : decode cX3_loudestGate 7 = .ok (.aload_n 0, 1) := by decide +kernel
theorem dX3_loudestGate_8 : decode cX3_loudestGate 8 = .ok (.getfield 10, 3) := by decide +kernel
theorem dX3_loudestGate_11 : decode cX3_loudestGate 11 = .ok (.getfield 27, 3) := by decide +kernel
theorem dX3_loudestGate_14 : decode cX3_loudestGate 14 = .ok (.if_icmp .ge 31, 3) := by decide +kernel
theorem dX3_loudestGate_17 : decode cX3_loudestGate 17 = .ok (.aload_n 0, 1) := by decide +kernel
theorem dX3_loudestGate_18 : decode cX3_loudestGate 18 = .ok (.getfield 10, 3) := by decide +kernel
theorem dX3_loudestGate_21 : decode cX3_loudestGate 21 = .ok (.iload_n 3, 1) := by decide +kernel
theorem dX3_loudestGate_22 : decode cX3_loudestGate 22 = .ok (.iconst 0, 1) := by decide +kernel
theorem dX3_loudestGate_23 : decode cX3_loudestGate 23 = .ok (.invokevirtual 135, 3) := by decide +kernel
theorem dX3_loudestGate_26 : decode cX3_loudestGate 26 = .ok (.istore 4, 2) := by decide +kernel
theorem dX3_loudestGate_28 : decode cX3_loudestGate 28 = .ok (.iload 4, 2) := by decide +kernel
theorem dX3_loudestGate_30 : decode cX3_loudestGate 30 = .ok (.iload_n 2, 1) := by decide +kernel
theorem dX3_loudestGate_31 : decode cX3_loudestGate 31 = .ok (.if_icmp .le 8, 3) := by decide +kernel
theorem dX3_loudestGate_34 : decode cX3_loudestGate 34 = .ok (.iload 4, 2) := by decide +kernel
theorem dX3_loudestGate_36 : decode cX3_loudestGate 36 = .ok (.istore_n 2, 1) := by decide +kernel
theorem dX3_loudestGate_37 : decode cX3_loudestGate 37 = .ok (.iload_n 3, 1) := by decide +kernel
theorem dX3_loudestGate_38 : decode cX3_loudestGate 38 = .ok (.istore_n 1, 1) := by decide +kernel
theorem dX3_loudestGate_39 : decode cX3_loudestGate 39 = .ok (.iinc 3 1, 3) := by decide +kernel
theorem dX3_loudestGate_42 : decode cX3_loudestGate 42 = .ok (.goto (-36), 3) := by decide +kernel
theorem dX3_loudestGate_45 : decode cX3_loudestGate 45 = .ok (.iload_n 1, 1) := by decide +kernel
theorem dX3_loudestGate_46 : decode cX3_loudestGate 46 = .ok (.ireturn, 1) := by decide +kernel
set_option maxRecDepth 20000 in
theorem ggX3_gateOf_X3_demandGoose : GoodIn wsX3_gateOf wsX3_demandGoose := goodIn_ca (goodIn_r _ [8, 1, 2, 9, 10, 11, 12, 13, 14, 15, 16, 7, 17, 18, 19, 20, 21, 22, 23, 24, 25, 26, 27, 28, 29, 30, 31, 32, 33] (by decide +kernel) (by decide +kernel)) (goodIn_sub (fun _ h => List.mem_cons_of_mem _ (List.mem_append_right _ h)) (by decide +kernel))
set_option maxRecDepth 20000 in
theorem gX3_gateOf_X3_demandGoose : GoodIn wsX3_gateOf (wsV RX3 97 RX3 yX3_demandGoose wsX3_demandGoose) := goodIn_app (goodIn_of _ (by decide +kernel)) ggX3_gateOf_X3_demandGoose
theorem dX3_gateOf_0 : decode cX3_gateOf 0 = .ok (.aload_n 0, 1) := by decide +kernel
theorem dX3_gateOf_1 : decode cX3_gateOf 1 = .ok (.iload_n 1, 1) := by decide +kernel
theorem dX3_gateOf_2 : decode cX3_gateOf 2 = .ok (.invokevirtual 97, 3) := by decide +kernel
theorem dX3_gateOf_5 : decode cX3_gateOf 5 = .ok (.aload_n 0, 1) := by decide +kernel
theorem dX3_gateOf_6 : decode cX3_gateOf 6 = .ok (.getfield 10, 3) := by decide +kernel
theorem dX3_gateOf_9 : decode cX3_gateOf 9 = .ok (.getfield 57, 3) := by decide +kernel
theorem dX3_gateOf_12 : decode cX3_gateOf 12 = .ok (.getfield 82, 3) := by decide +kernel
theorem dX3_gateOf_15 : decode cX3_gateOf 15 = .ok (.iload_n 1, 1) := by decide +kernel
theorem dX3_gateOf_16 : decode cX3_gateOf 16 = .ok (.iaload, 1) := by decide +kernel
theorem dX3_gateOf_17 : decode cX3_gateOf 17 = .ok (.ireturn, 1) := by decide +kernel
set_option maxRecDepth 20000 in
theorem ggX3_temperOf_X3_demandGoose : GoodIn wsX3_temperOf wsX3_demandGoose := goodIn_ca (goodIn_r _ [8, 1, 2, 9, 10, 11, 12, 13, 14, 15, 16, 7, 17, 18, 19, 20, 21, 22, 23, 24, 25, 26, 27, 28, 29, 30, 31, 32, 33] (by decide +kernel) (by decide +kernel)) (goodIn_sub (fun _ h => List.mem_cons_of_mem _ (List.mem_append_right _ h)) (by decide +kernel))
set_option maxRecDepth 20000 in
theorem gX3_temperOf_X3_demandGoose : GoodIn wsX3_temperOf (wsV RX3 97 RX3 yX3_demandGoose wsX3_demandGoose) := goodIn_app (goodIn_of _ (by decide +kernel)) ggX3_temperOf_X3_demandGoose
theorem dX3_temperOf_0 : decode cX3_temperOf 0 = .ok (.aload_n 0, 1) := by decide +kernel
theorem dX3_temperOf_1 : decode cX3_temperOf 1 = .ok (.iload_n 1, 1) := by decide +kernel
theorem dX3_temperOf_2 : decode cX3_temperOf 2 = .ok (.invokevirtual 97, 3) := by decide +kernel
theorem dX3_temperOf_5 : decode cX3_temperOf 5 = .ok (.aload_n 0, 1) := by decide +kernel
theorem dX3_temperOf_6 : decode cX3_temperOf 6 = .ok (.getfield 10, 3) := by decide +kernel
theorem dX3_temperOf_9 : decode cX3_temperOf 9 = .ok (.getfield 57, 3) := by decide +kernel
theorem dX3_temperOf_12 : decode cX3_temperOf 12 = .ok (.getfield 110, 3) := by decide +kernel
theorem dX3_temperOf_15 : decode cX3_temperOf 15 = .ok (.iload_n 1, 1) := by decide +kernel
theorem dX3_temperOf_16 : decode cX3_temperOf 16 = .ok (.iaload, 1) := by decide +kernel
theorem dX3_temperOf_17 : decode cX3_temperOf 17 = .ok (.ireturn, 1) := by decide +kernel
set_option maxRecDepth 20000 in
theorem ggX3_calmFor_X3_demandGoose : GoodIn wsX3_calmFor wsX3_demandGoose := goodIn_ca (goodIn_r _ [8, 1, 2, 9, 10, 11, 12, 13, 14, 15, 16, 7, 17, 18, 19, 20, 21, 22, 23, 24, 25, 26, 27, 28, 29, 30, 31, 32, 33] (by decide +kernel) (by decide +kernel)) (goodIn_sub (fun _ h => List.mem_cons_of_mem _ (List.mem_append_right _ h)) (by decide +kernel))
set_option maxRecDepth 20000 in
theorem gX3_calmFor_X3_demandGoose : GoodIn wsX3_calmFor (wsV RX3 97 RX3 yX3_demandGoose wsX3_demandGoose) := goodIn_app (goodIn_of _ (by decide +kernel)) ggX3_calmFor_X3_demandGoose
theorem dX3_calmFor_0 : decode cX3_calmFor 0 = .ok (.aload_n 0, 1) := by decide +kernel
theorem dX3_calmFor_1 : decode cX3_calmFor 1 = .ok (.iload_n 1, 1) := by decide +kernel
theorem dX3_calmFor_2 : decode cX3_calmFor 2 = .ok (.invokevirtual 97, 3) := by decide +kernel
theorem dX3_calmFor_5 : decode cX3_calmFor 5 = .ok (.aload_n 0, 1) := by decide +kernel
theorem dX3_calmFor_6 : decode cX3_calmFor 6 = .ok (.getfield 10, 3) := by decide +kernel
theorem dX3_calmFor_9 : decode cX3_calmFor 9 = .ok (.getfield 57, 3) := by decide +kernel
theorem dX3_calmFor_12 : decode cX3_calmFor 12 = .ok (.getfield 138, 3) := by decide +kernel
theorem dX3_calmFor_15 : decode cX3_calmFor 15 = .ok (.iload_n 1, 1) := by decide +kernel
theorem dX3_calmFor_16 : decode cX3_calmFor 16 = .ok (.iaload, 1) := by decide +kernel
theorem dX3_calmFor_17 : decode cX3_calmFor 17 = .ok (.ireturn, 1) := by decide +kernel
set_option maxRecDepth 20000 in
theorem ggX3_eatenBy_X3_demandGoose : GoodIn wsX3_eatenBy wsX3_demandGoose := goodIn_ca (goodIn_r _ [8, 1, 2, 9, 10, 11, 12, 13, 14, 15, 16, 7, 17, 18, 19, 20, 21, 22, 23, 24, 25, 26, 27, 28, 29, 30, 31, 32, 33] (by decide +kernel) (by decide +kernel)) (goodIn_sub (fun _ h => List.mem_cons_of_mem _ (List.mem_append_right _ h)) (by decide +kernel))
set_option maxRecDepth 20000 in
theorem gX3_eatenBy_X3_demandGoose : GoodIn wsX3_eatenBy (wsV RX3 97 RX3 yX3_demandGoose wsX3_demandGoose) := goodIn_app (goodIn_of _ (by decide +kernel)) ggX3_eatenBy_X3_demandGoose
theorem dX3_eatenBy_0 : decode cX3_eatenBy 0 = .ok (.aload_n 0, 1) := by decide +kernel
theorem dX3_eatenBy_1 : decode cX3_eatenBy 1 = .ok (.iload_n 1, 1) := by decide +kernel
theorem dX3_eatenBy_2 : decode cX3_eatenBy 2 = .ok (.invokevirtual 97, 3) := by decide +kernel
theorem dX3_eatenBy_5 : decode cX3_eatenBy 5 = .ok (.aload_n 0, 1) := by decide +kernel
theorem dX3_eatenBy_6 : decode cX3_eatenBy 6 = .ok (.getfield 10, 3) := by decide +kernel
theorem dX3_eatenBy_9 : decode cX3_eatenBy 9 = .ok (.getfield 57, 3) := by decide +kernel
theorem dX3_eatenBy_12 : decode cX3_eatenBy 12 = .ok (.getfield 141, 3) := by decide +kernel
theorem dX3_eatenBy_15 : decode cX3_eatenBy 15 = .ok (.iload_n 1, 1) := by decide +kernel
theorem dX3_eatenBy_16 : decode cX3_eatenBy 16 = .ok (.iaload, 1) := by decide +kernel
theorem dX3_eatenBy_17 : decode cX3_eatenBy 17 = .ok (.ireturn, 1) := by decide +kernel
set_option maxRecDepth 20000 in
theorem ggX3_passedBy_X3_demandVisitor : GoodIn wsX3_passedBy wsX3_demandVisitor := goodIn_ca (goodIn_r _ [8, 1, 2, 9, 10, 11, 12, 13, 14, 15, 16, 7, 17, 18, 19, 20, 21, 22, 23, 24, 25, 26, 27, 28, 29, 30, 31, 32, 33, 34] (by decide +kernel) (by decide +kernel)) (goodIn_sub (fun _ h => List.mem_cons_of_mem _ (List.mem_append_right _ h)) (by decide +kernel))
set_option maxRecDepth 20000 in
theorem gX3_passedBy_X3_demandVisitor : GoodIn wsX3_passedBy (wsV RX3 85 RX3 yX3_demandVisitor wsX3_demandVisitor) := goodIn_app (goodIn_of _ (by decide +kernel)) ggX3_passedBy_X3_demandVisitor
theorem dX3_passedBy_0 : decode cX3_passedBy 0 = .ok (.aload_n 0, 1) := by decide +kernel
theorem dX3_passedBy_1 : decode cX3_passedBy 1 = .ok (.iload_n 1, 1) := by decide +kernel
theorem dX3_passedBy_2 : decode cX3_passedBy 2 = .ok (.invokevirtual 85, 3) := by decide +kernel
theorem dX3_passedBy_5 : decode cX3_passedBy 5 = .ok (.aload_n 0, 1) := by decide +kernel
theorem dX3_passedBy_6 : decode cX3_passedBy 6 = .ok (.getfield 10, 3) := by decide +kernel
theorem dX3_passedBy_9 : decode cX3_passedBy 9 = .ok (.getfield 31, 3) := by decide +kernel
theorem dX3_passedBy_12 : decode cX3_passedBy 12 = .ok (.getfield 103, 3) := by decide +kernel
theorem dX3_passedBy_15 : decode cX3_passedBy 15 = .ok (.iload_n 1, 1) := by decide +kernel
theorem dX3_passedBy_16 : decode cX3_passedBy 16 = .ok (.iaload, 1) := by decide +kernel
theorem dX3_passedBy_17 : decode cX3_passedBy 17 = .ok (.ireturn, 1) := by decide +kernel
set_option maxRecDepth 20000 in
theorem ggX3_isInFarm_X3_demandVisitor : GoodIn wsX3_isInFarm wsX3_demandVisitor := goodIn_ca (goodIn_r _ [6, 1, 7, 8, 9, 10, 11, 12, 13, 14, 15, 5, 16, 17, 18, 27, 28, 29, 30, 31, 32, 33, 34, 35, 36, 37, 38, 39, 40, 41] (by decide +kernel) (by decide +kernel)) (goodIn_sub (fun _ h => List.mem_cons_of_mem _ (List.mem_append_right _ h)) (by decide +kernel))
set_option maxRecDepth 20000 in
theorem gX3_isInFarm_X3_demandVisitor : GoodIn wsX3_isInFarm (wsV RX3 85 RX3 yX3_demandVisitor wsX3_demandVisitor) := goodIn_app (goodIn_of _ (by decide +kernel)) ggX3_isInFarm_X3_demandVisitor
set_option maxRecDepth 20000 in
theorem ggX3_isInFarm_X0_isBehindAll : GoodIn wsX3_isInFarm wsX0_isBehindAll := goodIn_r _ [23, 24, 25, 26, 29, 30, 31, 32, 33, 34, 35, 36, 37, 38, 39, 40, 41] (by decide +kernel) (by decide +kernel)
set_option maxRecDepth 20000 in
theorem gX3_isInFarm_X0_isBehindAll : GoodIn wsX3_isInFarm (wsV RX3 100 RX0 yX0_isBehindAll wsX0_isBehindAll) := goodIn_app (goodIn_of _ (by decide +kernel)) ggX3_isInFarm_X0_isBehindAll
theorem dX3_isInFarm_0 : decode cX3_isInFarm 0 = .ok (.aload_n 0, 1) := by decide +kernel
theorem dX3_isInFarm_1 : decode cX3_isInFarm 1 = .ok (.iload_n 1, 1) := by decide +kernel
theorem dX3_isInFarm_2 : decode cX3_isInFarm 2 = .ok (.invokevirtual 85, 3) := by decide +kernel
theorem dX3_isInFarm_5 : decode cX3_isInFarm 5 = .ok (.aload_n 0, 1) := by decide +kernel
theorem dX3_isInFarm_6 : decode cX3_isInFarm 6 = .ok (.getfield 10, 3) := by decide +kernel
theorem dX3_isInFarm_9 : decode cX3_isInFarm 9 = .ok (.iload_n 1, 1) := by decide +kernel
theorem dX3_isInFarm_10 : decode cX3_isInFarm 10 = .ok (.invokevirtual 100, 3) := by decide +kernel
theorem dX3_isInFarm_13 : decode cX3_isInFarm 13 = .ok (.ireturn, 1) := by decide +kernel
set_option maxRecDepth 20000 in
theorem ggX3_cornsOf_X3_demandVisitor : GoodIn wsX3_cornsOf wsX3_demandVisitor := goodIn_ca (goodIn_r _ [8, 1, 2, 9, 10, 11, 12, 13, 14, 15, 16, 7, 17, 18, 19, 20, 21, 22, 23, 24, 25, 26, 27, 28, 29, 30, 31, 32, 33, 34] (by decide +kernel) (by decide +kernel)) (goodIn_sub (fun _ h => List.mem_cons_of_mem _ (List.mem_append_right _ h)) (by decide +kernel))
set_option maxRecDepth 20000 in
theorem gX3_cornsOf_X3_demandVisitor : GoodIn wsX3_cornsOf (wsV RX3 85 RX3 yX3_demandVisitor wsX3_demandVisitor) := goodIn_app (goodIn_of _ (by decide +kernel)) ggX3_cornsOf_X3_demandVisitor
theorem dX3_cornsOf_0 : decode cX3_cornsOf 0 = .ok (.aload_n 0, 1) := by decide +kernel
theorem dX3_cornsOf_1 : decode cX3_cornsOf 1 = .ok (.iload_n 1, 1) := by decide +kernel
theorem dX3_cornsOf_2 : decode cX3_cornsOf 2 = .ok (.invokevirtual 85, 3) := by decide +kernel
theorem dX3_cornsOf_5 : decode cX3_cornsOf 5 = .ok (.aload_n 0, 1) := by decide +kernel
theorem dX3_cornsOf_6 : decode cX3_cornsOf 6 = .ok (.getfield 10, 3) := by decide +kernel
theorem dX3_cornsOf_9 : decode cX3_cornsOf 9 = .ok (.getfield 31, 3) := by decide +kernel
theorem dX3_cornsOf_12 : decode cX3_cornsOf 12 = .ok (.getfield 89, 3) := by decide +kernel
theorem dX3_cornsOf_15 : decode cX3_cornsOf 15 = .ok (.iload_n 1, 1) := by decide +kernel
theorem dX3_cornsOf_16 : decode cX3_cornsOf 16 = .ok (.iaload, 1) := by decide +kernel
theorem dX3_cornsOf_17 : decode cX3_cornsOf 17 = .ok (.ireturn, 1) := by decide +kernel
set_option maxRecDepth 20000 in
theorem ggX3_nerveOf_X3_demandVisitor : GoodIn wsX3_nerveOf wsX3_demandVisitor := goodIn_ca (goodIn_r _ [8, 1, 2, 9, 10, 11, 12, 13, 14, 15, 16, 7, 17, 18, 19, 20, 21, 22, 23, 24, 25, 26, 27, 28, 29, 30, 31, 32, 33, 34] (by decide +kernel) (by decide +kernel)) (goodIn_sub (fun _ h => List.mem_cons_of_mem _ (List.mem_append_right _ h)) (by decide +kernel))
set_option maxRecDepth 20000 in
theorem gX3_nerveOf_X3_demandVisitor : GoodIn wsX3_nerveOf (wsV RX3 85 RX3 yX3_demandVisitor wsX3_demandVisitor) := goodIn_app (goodIn_of _ (by decide +kernel)) ggX3_nerveOf_X3_demandVisitor
theorem dX3_nerveOf_0 : decode cX3_nerveOf 0 = .ok (.aload_n 0, 1) := by decide +kernel
theorem dX3_nerveOf_1 : decode cX3_nerveOf 1 = .ok (.iload_n 1, 1) := by decide +kernel
theorem dX3_nerveOf_2 : decode cX3_nerveOf 2 = .ok (.invokevirtual 85, 3) := by decide +kernel
theorem dX3_nerveOf_5 : decode cX3_nerveOf 5 = .ok (.aload_n 0, 1) := by decide +kernel
theorem dX3_nerveOf_6 : decode cX3_nerveOf 6 = .ok (.getfield 10, 3) := by decide +kernel
theorem dX3_nerveOf_9 : decode cX3_nerveOf 9 = .ok (.getfield 31, 3) := by decide +kernel
theorem dX3_nerveOf_12 : decode cX3_nerveOf 12 = .ok (.getfield 144, 3) := by decide +kernel
theorem dX3_nerveOf_15 : decode cX3_nerveOf 15 = .ok (.iload_n 1, 1) := by decide +kernel
theorem dX3_nerveOf_16 : decode cX3_nerveOf 16 = .ok (.iaload, 1) := by decide +kernel
theorem dX3_nerveOf_17 : decode cX3_nerveOf 17 = .ok (.ireturn, 1) := by decide +kernel
set_option maxRecDepth 20000 in
theorem ggX3_retreatOf_X3_demandVisitor : GoodIn wsX3_retreatOf wsX3_demandVisitor := goodIn_ca (goodIn_r _ [8, 1, 2, 9, 10, 11, 12, 13, 14, 15, 16, 7, 17, 18, 19, 20, 21, 22, 23, 24, 25, 26, 27, 28, 29, 30, 31, 32, 33, 34] (by decide +kernel) (by decide +kernel)) (goodIn_sub (fun _ h => List.mem_cons_of_mem _ (List.mem_append_right _ h)) (by decide +kernel))
set_option maxRecDepth 20000 in
theorem gX3_retreatOf_X3_demandVisitor : GoodIn wsX3_retreatOf (wsV RX3 85 RX3 yX3_demandVisitor wsX3_demandVisitor) := goodIn_app (goodIn_of _ (by decide +kernel)) ggX3_retreatOf_X3_demandVisitor
theorem dX3_retreatOf_0 : decode cX3_retreatOf 0 = .ok (.aload_n 0, 1) := by decide +kernel
theorem dX3_retreatOf_1 : decode cX3_retreatOf 1 = .ok (.iload_n 1, 1) := by decide +kernel
theorem dX3_retreatOf_2 : decode cX3_retreatOf 2 = .ok (.invokevirtual 85, 3) := by decide +kernel
theorem dX3_retreatOf_5 : decode cX3_retreatOf 5 = .ok (.aload_n 0, 1) := by decide +kernel
theorem dX3_retreatOf_6 : decode cX3_retreatOf 6 = .ok (.getfield 10, 3) := by decide +kernel
theorem dX3_retreatOf_9 : decode cX3_retreatOf 9 = .ok (.getfield 31, 3) := by decide +kernel
theorem dX3_retreatOf_12 : decode cX3_retreatOf 12 = .ok (.getfield 147, 3) := by decide +kernel
theorem dX3_retreatOf_15 : decode cX3_retreatOf 15 = .ok (.iload_n 1, 1) := by decide +kernel
theorem dX3_retreatOf_16 : decode cX3_retreatOf 16 = .ok (.iaload, 1) := by decide +kernel
theorem dX3_retreatOf_17 : decode cX3_retreatOf 17 = .ok (.ireturn, 1) := by decide +kernel
set_option maxRecDepth 20000 in
theorem ggX3_hissAt_X3_demandVisitor : GoodIn wsX3_hissAt wsX3_demandVisitor := goodIn_ca (goodIn_r _ [6, 1, 7, 8, 9, 10, 11, 12, 13, 14, 15, 5, 16, 17, 18, 59, 60, 61, 62, 63, 64, 65, 66, 67, 68, 69, 70, 71, 72, 73] (by decide +kernel) (by decide +kernel)) (goodIn_sub (fun _ h => List.mem_cons_of_mem _ (List.mem_append_right _ h)) (by decide +kernel))
set_option maxRecDepth 20000 in
theorem gX3_hissAt_X3_demandVisitor : GoodIn wsX3_hissAt (wsV RX3 85 RX3 yX3_demandVisitor wsX3_demandVisitor) := goodIn_app (goodIn_of _ (by decide +kernel)) ggX3_hissAt_X3_demandVisitor
set_option maxRecDepth 20000 in
theorem ggX3_hissAt_X0_guestHiss : GoodIn wsX3_hissAt wsX0_guestHiss := goodIn_r _ [23, 24, 25, 26, 27, 28, 29, 22, 30, 31, 32, 33, 34, 35, 36, 37, 38, 39, 40, 41, 42, 43, 44, 45, 46, 47, 48, 49, 50, 51, 52, 53, 54, 55, 56, 57, 58, 61, 62, 63, 64, 65, 66, 67, 68, 69, 70, 71, 72, 73, 74, 75, 76, 77, 78] (by decide +kernel) (by decide +kernel)
set_option maxRecDepth 20000 in
theorem gX3_hissAt_X0_guestHiss : GoodIn wsX3_hissAt (wsV RX3 150 RX0 yX0_guestHiss wsX0_guestHiss) := goodIn_app (goodIn_of _ (by decide +kernel)) ggX3_hissAt_X0_guestHiss
theorem dX3_hissAt_0 : decode cX3_hissAt 0 = .ok (.aload_n 0, 1) := by decide +kernel
theorem dX3_hissAt_1 : decode cX3_hissAt 1 = .ok (.iload_n 1, 1) := by decide +kernel
theorem dX3_hissAt_2 : decode cX3_hissAt 2 = .ok (.invokevirtual 85, 3) := by decide +kernel
theorem dX3_hissAt_5 : decode cX3_hissAt 5 = .ok (.aload_n 0, 1) := by decide +kernel
theorem dX3_hissAt_6 : decode cX3_hissAt 6 = .ok (.getfield 10, 3) := by decide +kernel
theorem dX3_hissAt_9 : decode cX3_hissAt 9 = .ok (.iload_n 1, 1) := by decide +kernel
theorem dX3_hissAt_10 : decode cX3_hissAt 10 = .ok (.invokevirtual 150, 3) := by decide +kernel
theorem dX3_hissAt_13 : decode cX3_hissAt 13 = .ok (.ireturn, 1) := by decide +kernel
set_option maxRecDepth 20000 in
theorem ggX3_gradeFor_X3_demandVisitor : GoodIn wsX3_gradeFor wsX3_demandVisitor := goodIn_ca (goodIn_r _ [6, 1, 7, 8, 9, 10, 11, 12, 13, 14, 15, 5, 16, 17, 18, 62, 63, 64, 65, 66, 67, 68, 69, 70, 71, 72, 73, 74, 75, 76] (by decide +kernel) (by decide +kernel)) (goodIn_sub (fun _ h => List.mem_cons_of_mem _ (List.mem_append_right _ h)) (by decide +kernel))
set_option maxRecDepth 20000 in
theorem gX3_gradeFor_X3_demandVisitor : GoodIn wsX3_gradeFor (wsV RX3 85 RX3 yX3_demandVisitor wsX3_demandVisitor) := goodIn_app (goodIn_of _ (by decide +kernel)) ggX3_gradeFor_X3_demandVisitor
set_option maxRecDepth 20000 in
theorem ggX3_gradeFor_X0_guestHiss : GoodIn wsX3_gradeFor wsX0_guestHiss := goodIn_r _ [23, 24, 25, 26, 27, 28, 29, 22, 30, 31, 32, 33, 34, 35, 36, 37, 38, 39, 40, 41, 42, 43, 44, 45, 46, 47, 48, 49, 50, 51, 52, 53, 54, 55, 56, 57, 58, 64, 65, 66, 67, 68, 69, 70, 71, 72, 73, 74, 75, 76, 77, 78, 79, 80, 81] (by decide +kernel) (by decide +kernel)
set_option maxRecDepth 20000 in
theorem gX3_gradeFor_X0_guestHiss : GoodIn wsX3_gradeFor (wsV RX3 150 RX0 yX0_guestHiss wsX0_guestHiss) := goodIn_app (goodIn_of _ (by decide +kernel)) ggX3_gradeFor_X0_guestHiss
set_option maxRecDepth 20000 in
theorem ggX3_gradeFor_X3_gradeOfHiss : GoodIn wsX3_gradeFor wsX3_gradeOfHiss := goodIn_r _ [61] (by decide +kernel) (by decide +kernel)
set_option maxRecDepth 20000 in
theorem gX3_gradeFor_X3_gradeOfHiss : GoodIn wsX3_gradeFor (va_wsS RX3 153 yX3_gradeOfHiss wsX3_gradeOfHiss) := goodIn_app (goodIn_of _ (by decide +kernel)) ggX3_gradeFor_X3_gradeOfHiss
theorem dX3_gradeFor_0 : decode cX3_gradeFor 0 = .ok (.aload_n 0, 1) := by decide +kernel
theorem dX3_gradeFor_1 : decode cX3_gradeFor 1 = .ok (.iload_n 1, 1) := by decide +kernel
theorem dX3_gradeFor_2 : decode cX3_gradeFor 2 = .ok (.invokevirtual 85, 3) := by decide +kernel
theorem dX3_gradeFor_5 : decode cX3_gradeFor 5 = .ok (.aload_n 0, 1) := by decide +kernel
theorem dX3_gradeFor_6 : decode cX3_gradeFor 6 = .ok (.getfield 10, 3) := by decide +kernel
theorem dX3_gradeFor_9 : decode cX3_gradeFor 9 = .ok (.iload_n 1, 1) := by decide +kernel
theorem dX3_gradeFor_10 : decode cX3_gradeFor 10 = .ok (.invokevirtual 150, 3) := by decide +kernel
theorem dX3_gradeFor_13 : decode cX3_gradeFor 13 = .ok (.invokestatic 153, 3) := by decide +kernel
theorem dX3_gradeFor_16 : decode cX3_gradeFor 16 = .ok (.ireturn, 1) := by decide +kernel
set_option maxRecDepth 20000 in
theorem ggX3_dares_X3_demandVisitor : GoodIn wsX3_dares wsX3_demandVisitor := goodIn_ca (goodIn_r _ [8, 1, 2, 9, 10, 11, 12, 13, 14, 15, 16, 7, 17, 18, 19, 64, 65, 66, 67, 68, 69, 70, 71, 72, 73, 74, 75, 76, 77, 78] (by decide +kernel) (by decide +kernel)) (goodIn_sub (fun _ h => List.mem_cons_of_mem _ (List.mem_append_right _ h)) (by decide +kernel))
set_option maxRecDepth 20000 in
theorem gX3_dares_X3_demandVisitor : GoodIn wsX3_dares (wsV RX3 85 RX3 yX3_demandVisitor wsX3_demandVisitor) := goodIn_app (goodIn_of _ (by decide +kernel)) ggX3_dares_X3_demandVisitor
set_option maxRecDepth 20000 in
theorem ggX3_dares_X0_isBehindAll : GoodIn wsX3_dares wsX0_isBehindAll := goodIn_r _ [24, 25, 26, 27, 66, 67, 68, 69, 70, 71, 72, 73, 74, 75, 76, 77, 78] (by decide +kernel) (by decide +kernel)
set_option maxRecDepth 20000 in
theorem gX3_dares_X0_isBehindAll : GoodIn wsX3_dares (wsV RX3 100 RX0 yX0_isBehindAll wsX0_isBehindAll) := goodIn_app (goodIn_of _ (by decide +kernel)) ggX3_dares_X0_isBehindAll
set_option maxRecDepth 20000 in
theorem ggX3_dares_X0_guestHiss : GoodIn wsX3_dares wsX0_guestHiss := goodIn_r _ [31, 25, 26, 32, 33, 34, 35, 23, 36, 37, 38, 39, 40, 41, 42, 43, 44, 45, 46, 47, 48, 49, 50, 27, 51, 52, 53, 54, 55, 56, 57, 58, 59, 60, 61, 62, 63, 66, 67, 68, 69, 70, 71, 72, 73, 74, 75, 76, 77, 78, 79, 80, 81, 82, 83] (by decide +kernel) (by decide +kernel)
set_option maxRecDepth 20000 in
theorem gX3_dares_X0_guestHiss : GoodIn wsX3_dares (wsV RX3 150 RX0 yX0_guestHiss wsX0_guestHiss) := goodIn_app (goodIn_of _ (by decide +kernel)) ggX3_dares_X0_guestHiss
theorem dX3_dares_0 : decode cX3_dares 0 = .ok (.aload_n 0, 1) := by decide +kernel
theorem dX3_dares_1 : decode cX3_dares 1 = .ok (.iload_n 1, 1) := by decide +kernel
theorem dX3_dares_2 : decode cX3_dares 2 = .ok (.invokevirtual 85, 3) := by decide +kernel
theorem dX3_dares_5 : decode cX3_dares 5 = .ok (.aload_n 0, 1) := by decide +kernel
theorem dX3_dares_6 : decode cX3_dares 6 = .ok (.getfield 10, 3) := by decide +kernel
theorem dX3_dares_9 : decode cX3_dares 9 = .ok (.iload_n 1, 1) := by decide +kernel
theorem dX3_dares_10 : decode cX3_dares 10 = .ok (.invokevirtual 100, 3) := by decide +kernel
theorem dX3_dares_13 : decode cX3_dares 13 = .ok (.ifCond .ne 30, 3) := by decide +kernel
theorem dX3_dares_16 : decode cX3_dares 16 = .ok (.aload_n 0, 1) := by decide +kernel
theorem dX3_dares_17 : decode cX3_dares 17 = .ok (.getfield 10, 3) := by decide +kernel
theorem dX3_dares_20 : decode cX3_dares 20 = .ok (.iload_n 1, 1) := by decide +kernel
theorem dX3_dares_21 : decode cX3_dares 21 = .ok (.invokevirtual 150, 3) := by decide +kernel
theorem dX3_dares_24 : decode cX3_dares 24 = .ok (.aload_n 0, 1) := by decide +kernel
theorem dX3_dares_25 : decode cX3_dares 25 = .ok (.getfield 10, 3) := by decide +kernel
theorem dX3_dares_28 : decode cX3_dares 28 = .ok (.getfield 31, 3) := by decide +kernel
theorem dX3_dares_31 : decode cX3_dares 31 = .ok (.getfield 144, 3) := by decide +kernel
theorem dX3_dares_34 : decode cX3_dares 34 = .ok (.iload_n 1, 1) := by decide +kernel
theorem dX3_dares_35 : decode cX3_dares 35 = .ok (.iaload, 1) := by decide +kernel
theorem dX3_dares_36 : decode cX3_dares 36 = .ok (.if_icmp .gt 7, 3) := by decide +kernel
theorem dX3_dares_39 : decode cX3_dares 39 = .ok (.iconst 1, 1) := by decide +kernel
theorem dX3_dares_40 : decode cX3_dares 40 = .ok (.goto 4, 3) := by decide +kernel
theorem dX3_dares_43 : decode cX3_dares 43 = .ok (.iconst 0, 1) := by decide +kernel
theorem dX3_dares_44 : decode cX3_dares 44 = .ok (.ireturn, 1) := by decide +kernel
set_option maxRecDepth 20000 in
theorem ggX3_beatsUntilIn_X3_demandVisitor : GoodIn wsX3_beatsUntilIn wsX3_demandVisitor := goodIn_ca (goodIn_r _ [7, 2, 8, 9, 10, 11, 12, 13, 14, 15, 16, 6, 17, 18, 19, 138, 139, 140, 141, 142, 143, 144, 145, 146, 147, 148, 149, 150, 151, 152] (by decide +kernel) (by decide +kernel)) (goodIn_sub (fun _ h => List.mem_cons_of_mem _ (List.mem_append_right _ h)) (by decide +kernel))
set_option maxRecDepth 20000 in
theorem gX3_beatsUntilIn_X3_demandVisitor : GoodIn wsX3_beatsUntilIn (wsV RX3 85 RX3 yX3_demandVisitor wsX3_demandVisitor) := goodIn_app (goodIn_of _ (by decide +kernel)) ggX3_beatsUntilIn_X3_demandVisitor
set_option maxRecDepth 20000 in
theorem ggX3_beatsUntilIn_X0_copyFrom : GoodIn wsX3_beatsUntilIn wsX0_copyFrom := goodIn_r _ [24, 25, 26, 27, 28, 29, 30, 31, 32, 33, 34, 35, 36, 37, 38, 39, 40, 41, 42, 43, 44, 45, 46, 47, 48, 49, 12, 50, 14, 51, 52, 53, 54, 55, 56, 140, 141, 142, 143, 144, 145, 146, 153, 154, 155, 156, 157, 147, 148, 149, 150, 151, 152] (by decide +kernel) (by decide +kernel)
set_option maxRecDepth 20000 in
theorem gX3_beatsUntilIn_X0_copyFrom : GoodIn wsX3_beatsUntilIn (wsV RX3 156 RX0 yX0_copyFrom wsX0_copyFrom) := goodIn_app (goodIn_of _ (by decide +kernel)) ggX3_beatsUntilIn_X0_copyFrom
set_option maxRecDepth 20000 in
theorem ggX3_beatsUntilIn_X0_beatsToFarm : GoodIn wsX3_beatsUntilIn wsX0_beatsToFarm := goodIn_r _ [60, 61, 62, 63, 23, 64, 32, 65, 25, 66, 67, 68, 69, 31, 70, 33, 71, 72, 73, 39, 74, 41, 45, 75, 76, 77, 78, 79, 80, 81, 82, 35, 83, 84, 85, 86, 87, 88, 89, 90, 26, 91, 92, 93, 94, 95, 96, 97, 98, 99, 100, 101, 102, 44, 103, 104, 105, 106, 42, 107, 108, 109, 110, 111, 112, 113, 114, 115, 116, 117, 118, 119, 120, 121, 122, 123, 124, 125, 34, 126, 127, 128, 129, 46, 130, 131, 6, 132, 133, 134, 135, 12, 136, 56, 53, 137, 55, 140, 141, 142, 143, 144, 145, 146, 147, 148, 149, 150, 151, 152, 153, 154, 155, 156, 157] (by decide +kernel) (by decide +kernel)
set_option maxRecDepth 20000 in
theorem gX3_beatsUntilIn_X0_beatsToFarm : GoodIn wsX3_beatsUntilIn (wsV RX3 160 RX0 yX0_beatsToFarm wsX0_beatsToFarm) := goodIn_app (goodIn_of _ (by decide +kernel)) ggX3_beatsUntilIn_X0_beatsToFarm
theorem dX3_beatsUntilIn_0 : decode cX3_beatsUntilIn 0 = .ok (.aload_n 0, 1) := by decide +kernel
theorem dX3_beatsUntilIn_1 : decode cX3_beatsUntilIn 1 = .ok (.iload_n 1, 1) := by decide +kernel
theorem dX3_beatsUntilIn_2 : decode cX3_beatsUntilIn 2 = .ok (.invokevirtual 85, 3) := by decide +kernel
theorem dX3_beatsUntilIn_5 : decode cX3_beatsUntilIn 5 = .ok (.aload_n 0, 1) := by decide +kernel
theorem dX3_beatsUntilIn_6 : decode cX3_beatsUntilIn 6 = .ok (.getfield 16, 3) := by decide +kernel
theorem dX3_beatsUntilIn_9 : decode cX3_beatsUntilIn 9 = .ok (.aload_n 0, 1) := by decide +kernel
theorem dX3_beatsUntilIn_10 : decode cX3_beatsUntilIn 10 = .ok (.getfield 10, 3) := by decide +kernel
theorem dX3_beatsUntilIn_13 : decode cX3_beatsUntilIn 13 = .ok (.invokevirtual 156, 3) := by decide +kernel
theorem dX3_beatsUntilIn_16 : decode cX3_beatsUntilIn 16 = .ok (.aload_n 0, 1) := by decide +kernel
theorem dX3_beatsUntilIn_17 : decode cX3_beatsUntilIn 17 = .ok (.getfield 16, 3) := by decide +kernel
theorem dX3_beatsUntilIn_20 : decode cX3_beatsUntilIn 20 = .ok (.iload_n 1, 1) := by decide +kernel
theorem dX3_beatsUntilIn_21 : decode cX3_beatsUntilIn 21 = .ok (.bipush 60, 2) := by decide +kernel
theorem dX3_beatsUntilIn_23 : decode cX3_beatsUntilIn 23 = .ok (.invokevirtual 160, 3) := by decide +kernel
theorem dX3_beatsUntilIn_26 : decode cX3_beatsUntilIn 26 = .ok (.ireturn, 1) := by decide +kernel
set_option maxRecDepth 20000 in
theorem ggX3_inFarmAfter_X3_isBeats : GoodIn wsX3_inFarmAfter wsX3_isBeats := goodIn_r _ [6, 7, 8, 5, 9] (by decide +kernel) (by decide +kernel)
set_option maxRecDepth 20000 in
theorem gX3_inFarmAfter_X3_isBeats : GoodIn wsX3_inFarmAfter (va_wsS RX3 113 yX3_isBeats wsX3_isBeats) := goodIn_app (goodIn_of _ (by decide +kernel)) ggX3_inFarmAfter_X3_isBeats
set_option maxRecDepth 20000 in
theorem ggX3_inFarmAfter_X3_demandArgument : GoodIn wsX3_inFarmAfter wsX3_demandArgument := goodIn_ca (goodIn_r _ [12, 13, 14] (by decide +kernel) (by decide +kernel)) (goodIn_sub (fun _ h => List.mem_cons_of_mem _ (List.mem_append_right _ h)) (by decide +kernel))
set_option maxRecDepth 20000 in
theorem gX3_inFarmAfter_X3_demandArgument : GoodIn wsX3_inFarmAfter (va_wsS RX3 23 yX3_demandArgument wsX3_demandArgument) := goodIn_app (goodIn_of _ (by decide +kernel)) ggX3_inFarmAfter_X3_demandArgument
set_option maxRecDepth 20000 in
theorem ggX3_inFarmAfter_X0_copyFrom : GoodIn wsX3_inFarmAfter wsX0_copyFrom := goodIn_r _ [19, 20, 21, 22, 23, 24, 25, 26, 27, 28, 29, 30, 31, 32, 33, 34, 35, 36, 37, 38, 39, 40, 41, 42, 43, 44, 45, 46, 47, 48, 49, 50, 51, 52, 53, 141, 142, 143, 144, 145, 146, 147, 148, 149, 150, 151, 152, 153, 154, 155, 156, 157, 158] (by decide +kernel) (by decide +kernel)
set_option maxRecDepth 20000 in
theorem gX3_inFarmAfter_X0_copyFrom : GoodIn wsX3_inFarmAfter (wsV RX3 156 RX0 yX0_copyFrom wsX0_copyFrom) := goodIn_app (goodIn_of _ (by decide +kernel)) ggX3_inFarmAfter_X0_copyFrom
set_option maxRecDepth 20000 in
theorem ggX3_inFarmAfter_X0_runBeats : GoodIn wsX3_inFarmAfter wsX0_runBeats := goodIn_r _ [57, 58, 59, 60, 18, 61, 26, 27, 62, 28, 63, 64, 65, 34, 66, 36, 40, 67, 68, 69, 70, 71, 20, 72, 73, 74, 75, 76, 77, 78, 79, 30, 80, 81, 82, 83, 84, 85, 86, 87, 21, 88, 89, 90, 91, 92, 93, 94, 95, 96, 97, 98, 99, 39, 100, 101, 102, 103, 37, 104, 105, 106, 107, 108, 109, 110, 111, 112, 113, 114, 115, 116, 117, 118, 119, 120, 121, 122, 29, 123, 124, 125, 126, 41, 127, 128, 5, 129, 130, 131, 132, 45, 133, 53, 50, 134, 52, 141, 142, 143, 144, 145, 146, 147, 153, 154, 155, 156, 157, 158, 148, 149, 150, 151, 152] (by decide +kernel) (by decide +kernel)
set_option maxRecDepth 20000 in
theorem gX3_inFarmAfter_X0_runBeats : GoodIn wsX3_inFarmAfter (wsV RX3 120 RX0 yX0_runBeats wsX0_runBeats) := goodIn_app (goodIn_of _ (by decide +kernel)) ggX3_inFarmAfter_X0_runBeats
set_option maxRecDepth 20000 in
theorem ggX3_inFarmAfter_X0_countInside : GoodIn wsX3_inFarmAfter wsX0_countInside := goodIn_r _ [138, 27, 62, 67, 68, 69, 18, 70, 71, 20, 141, 142, 143, 144, 145, 146, 147, 153, 154, 155, 156, 157, 158] (by decide +kernel) (by decide +kernel)
set_option maxRecDepth 20000 in
theorem gX3_inFarmAfter_X0_countInside : GoodIn wsX3_inFarmAfter (wsV RX3 116 RX0 yX0_countInside wsX0_countInside) := goodIn_app (goodIn_of _ (by decide +kernel)) ggX3_inFarmAfter_X0_countInside
theorem dX3_inFarmAfter_0 : decode cX3_inFarmAfter 0 = .ok (.iload_n 1, 1) := by decide +kernel
theorem dX3_inFarmAfter_1 : decode cX3_inFarmAfter 1 = .ok (.invokestatic 113, 3) := by decide +kernel
theorem dX3_inFarmAfter_4 : decode cX3_inFarmAfter 4 = .ok (.invokestatic 23, 3) := by decide +kernel
theorem dX3_inFarmAfter_7 : decode cX3_inFarmAfter 7 = .ok (.aload_n 0, 1) := by decide +kernel
theorem dX3_inFarmAfter_8 : decode cX3_inFarmAfter 8 = .ok (.getfield 16, 3) := by decide +kernel
theorem dX3_inFarmAfter_11 : decode cX3_inFarmAfter 11 = .ok (.aload_n 0, 1) := by decide +kernel
theorem dX3_inFarmAfter_12 : decode cX3_inFarmAfter 12 = .ok (.getfield 10, 3) := by decide +kernel
theorem dX3_inFarmAfter_15 : decode cX3_inFarmAfter 15 = .ok (.invokevirtual 156, 3) := by decide +kernel
theorem dX3_inFarmAfter_18 : decode cX3_inFarmAfter 18 = .ok (.aload_n 0, 1) := by decide +kernel
theorem dX3_inFarmAfter_19 : decode cX3_inFarmAfter 19 = .ok (.getfield 16, 3) := by decide +kernel
theorem dX3_inFarmAfter_22 : decode cX3_inFarmAfter 22 = .ok (.iload_n 1, 1) := by decide +kernel
theorem dX3_inFarmAfter_23 : decode cX3_inFarmAfter 23 = .ok (.invokevirtual 120, 3) := by decide +kernel
theorem dX3_inFarmAfter_26 : decode cX3_inFarmAfter 26 = .ok (.aload_n 0, 1) := by decide +kernel
theorem dX3_inFarmAfter_27 : decode cX3_inFarmAfter 27 = .ok (.getfield 16, 3) := by decide +kernel
theorem dX3_inFarmAfter_30 : decode cX3_inFarmAfter 30 = .ok (.invokevirtual 116, 3) := by decide +kernel
theorem dX3_inFarmAfter_33 : decode cX3_inFarmAfter 33 = .ok (.ireturn, 1) := by decide +kernel
set_option maxRecDepth 20000 in
theorem ggX3_cornsWanted_X3_demandVisitor : GoodIn wsX3_cornsWanted wsX3_demandVisitor := goodIn_ca (goodIn_r _ [9, 2, 3, 10, 11, 12, 13, 14, 15, 16, 17, 8, 18, 19, 20, 139, 140, 141, 142, 143, 144, 145, 146, 147, 148, 149, 150, 151, 152, 153] (by decide +kernel) (by decide +kernel)) (goodIn_sub (fun _ h => List.mem_cons_of_mem _ (List.mem_append_right _ h)) (by decide +kernel))
set_option maxRecDepth 20000 in
theorem gX3_cornsWanted_X3_demandVisitor : GoodIn wsX3_cornsWanted (wsV RX3 85 RX3 yX3_demandVisitor wsX3_demandVisitor) := goodIn_app (goodIn_of _ (by decide +kernel)) ggX3_cornsWanted_X3_demandVisitor
set_option maxRecDepth 20000 in
theorem ggX3_cornsWanted_X0_copyFrom : GoodIn wsX3_cornsWanted wsX0_copyFrom := goodIn_r _ [25, 26, 27, 28, 29, 30, 31, 32, 33, 34, 35, 36, 37, 38, 39, 40, 41, 42, 43, 44, 45, 46, 47, 48, 49, 50, 13, 51, 15, 52, 53, 54, 55, 56, 57, 141, 142, 143, 144, 145, 146, 147, 154, 155, 156, 157, 158, 148, 149, 150, 151, 152, 153] (by decide +kernel) (by decide +kernel)
set_option maxRecDepth 20000 in
theorem gX3_cornsWanted_X0_copyFrom : GoodIn wsX3_cornsWanted (wsV RX3 156 RX0 yX0_copyFrom wsX0_copyFrom) := goodIn_app (goodIn_of _ (by decide +kernel)) ggX3_cornsWanted_X0_copyFrom
set_option maxRecDepth 20000 in
theorem ggX3_cornsWanted_X0_beatsToFarm : GoodIn wsX3_cornsWanted wsX0_beatsToFarm := goodIn_r _ [61, 62, 63, 64, 24, 65, 33, 66, 26, 67, 68, 69, 70, 32, 71, 34, 72, 73, 74, 40, 75, 42, 46, 76, 77, 78, 79, 80, 81, 82, 83, 36, 84, 85, 86, 87, 88, 89, 90, 91, 27, 92, 93, 94, 95, 96, 97, 98, 99, 100, 101, 102, 103, 45, 104, 105, 106, 107, 43, 108, 109, 110, 111, 112, 113, 114, 115, 116, 117, 118, 119, 120, 121, 122, 123, 124, 125, 126, 35, 127, 128, 129, 130, 47, 131, 132, 8, 133, 134, 135, 136, 13, 137, 57, 54, 138, 56, 141, 142, 143, 144, 145, 146, 147, 148, 149, 150, 151, 152, 153, 154, 155, 156, 157, 158] (by decide +kernel) (by decide +kernel)
set_option maxRecDepth 20000 in
theorem gX3_cornsWanted_X0_beatsToFarm : GoodIn wsX3_cornsWanted (wsV RX3 160 RX0 yX0_beatsToFarm wsX0_beatsToFarm) := goodIn_app (goodIn_of _ (by decide +kernel)) ggX3_cornsWanted_X0_beatsToFarm
theorem dX3_cornsWanted_0 : decode cX3_cornsWanted 0 = .ok (.aload_n 0, 1) := by decide +kernel
theorem dX3_cornsWanted_1 : decode cX3_cornsWanted 1 = .ok (.iload_n 1, 1) := by decide +kernel
theorem dX3_cornsWanted_2 : decode cX3_cornsWanted 2 = .ok (.invokevirtual 85, 3) := by decide +kernel
theorem dX3_cornsWanted_5 : decode cX3_cornsWanted 5 = .ok (.iconst 0, 1) := by decide +kernel
theorem dX3_cornsWanted_6 : decode cX3_cornsWanted 6 = .ok (.istore_n 2, 1) := by decide +kernel
theorem dX3_cornsWanted_7 : decode cX3_cornsWanted 7 = .ok (.iload_n 2, 1) := by decide +kernel
theorem dX3_cornsWanted_8 : decode cX3_cornsWanted 8 = .ok (.bipush 20, 2) := by decide +kernel
theorem dX3_cornsWanted_10 : decode cX3_cornsWanted 10 = .ok (.if_icmp .gt 49, 3) := by decide +kernel
theorem dX3_cornsWanted_13 : decode cX3_cornsWanted 13 = .ok (.aload_n 0, 1) := by decide +kernel
theorem dX3_cornsWanted_14 : decode cX3_cornsWanted 14 = .ok (.getfield 16, 3) := by decide +kernel
theorem dX3_cornsWanted_17 : decode cX3_cornsWanted 17 = .ok (.aload_n 0, 1) := by decide +kernel
theorem dX3_cornsWanted_18 : decode cX3_cornsWanted 18 = .ok (.getfield 10, 3) := by decide +kernel
theorem dX3_cornsWanted_21 : decode cX3_cornsWanted 21 = .ok (.invokevirtual 156, 3) := by decide +kernel
theorem dX3_cornsWanted_24 : decode cX3_cornsWanted 24 = .ok (.aload_n 0, 1) := by decide +kernel
theorem dX3_cornsWanted_25 : decode cX3_cornsWanted 25 = .ok (.getfield 16, 3) := by decide +kernel
theorem dX3_cornsWanted_28 : decode cX3_cornsWanted 28 = .ok (.getfield 31, 3) := by decide +kernel
theorem dX3_cornsWanted_31 : decode cX3_cornsWanted 31 = .ok (.getfield 89, 3) := by decide +kernel
theorem dX3_cornsWanted_34 : decode cX3_cornsWanted 34 = .ok (.iload_n 1, 1) := by decide +kernel
theorem dX3_cornsWanted_35 : decode cX3_cornsWanted 35 = .ok (.iload_n 2, 1) := by decide +kernel
theorem dX3_cornsWanted_36 : decode cX3_cornsWanted 36 = .ok (.iastore, 1) := by decide +kernel
theorem dX3_cornsWanted_37 : decode cX3_cornsWanted 37 = .ok (.aload_n 0, 1) := by decide +kernel
theorem dX3_cornsWanted_38 : decode cX3_cornsWanted 38 = .ok (.getfield 16, 3) := by decide +kernel
theorem dX3_cornsWanted_41 : decode cX3_cornsWanted 41 = .ok (.iload_n 1, 1) := by decide +kernel
theorem dX3_cornsWanted_42 : decode cX3_cornsWanted 42 = .ok (.bipush 40, 2) := by decide +kernel
theorem dX3_cornsWanted_44 : decode cX3_cornsWanted 44 = .ok (.invokevirtual 160, 3) := by decide +kernel
theorem dX3_cornsWanted_47 : decode cX3_cornsWanted 47 = .ok (.iconst (-1), 1) := by decide +kernel
theorem dX3_cornsWanted_48 : decode cX3_cornsWanted 48 = .ok (.if_icmp .eq 5, 3) := by decide +kernel
theorem dX3_cornsWanted_51 : decode cX3_cornsWanted 51 = .ok (.iload_n 2, 1) := by decide +kernel
theorem dX3_cornsWanted_52 : decode cX3_cornsWanted 52 = .ok (.ireturn, 1) := by decide +kernel
theorem dX3_cornsWanted_53 : decode cX3_cornsWanted 53 = .ok (.iinc 2 1, 3) := by decide +kernel
theorem dX3_cornsWanted_56 : decode cX3_cornsWanted 56 = .ok (.goto (-49), 3) := by decide +kernel
theorem dX3_cornsWanted_59 : decode cX3_cornsWanted 59 = .ok (.iconst (-1), 1) := by decide +kernel
theorem dX3_cornsWanted_60 : decode cX3_cornsWanted 60 = .ok (.ireturn, 1) := by decide +kernel
set_option maxRecDepth 20000 in
theorem ggX3_bestToBribe_X3_demandVisitor : GoodIn wsX3_bestToBribe wsX3_demandVisitor := goodIn_ca (goodIn_r _ [9, 1, 3, 10, 11, 12, 13, 14, 15, 16, 17, 8, 18, 19, 20, 34, 35, 36, 37, 38, 39, 40, 41, 42, 43, 44, 45, 46, 47, 48] (by decide +kernel) (by decide +kernel)) (goodIn_sub (fun _ h => List.mem_cons_of_mem _ (List.mem_append_right _ h)) (by decide +kernel))
set_option maxRecDepth 20000 in
theorem gX3_bestToBribe_X3_demandVisitor : GoodIn wsX3_bestToBribe (wsV RX3 85 RX3 yX3_demandVisitor wsX3_demandVisitor) := goodIn_app (goodIn_of _ (by decide +kernel)) ggX3_bestToBribe_X3_demandVisitor
set_option maxRecDepth 20000 in
theorem ggX3_bestToBribe_X1_fiercestAwake : GoodIn wsX3_bestToBribe wsX1_fiercestAwake := goodIn_r _ [25, 26, 27, 28, 29, 30, 24, 31, 32, 33, 49, 50, 51, 52, 53] (by decide +kernel) (by decide +kernel)
set_option maxRecDepth 20000 in
theorem gX3_bestToBribe_X1_fiercestAwake : GoodIn wsX3_bestToBribe (wsV RX3 163 RX1 yX1_fiercestAwake wsX1_fiercestAwake) := goodIn_app (goodIn_of _ (by decide +kernel)) ggX3_bestToBribe_X1_fiercestAwake
theorem dX3_bestToBribe_0 : decode cX3_bestToBribe 0 = .ok (.aload_n 0, 1) := by decide +kernel
theorem dX3_bestToBribe_1 : decode cX3_bestToBribe 1 = .ok (.iload_n 1, 1) := by decide +kernel
theorem dX3_bestToBribe_2 : decode cX3_bestToBribe 2 = .ok (.invokevirtual 85, 3) := by decide +kernel
theorem dX3_bestToBribe_5 : decode cX3_bestToBribe 5 = .ok (.aload_n 0, 1) := by decide +kernel
theorem dX3_bestToBribe_6 : decode cX3_bestToBribe 6 = .ok (.getfield 10, 3) := by decide +kernel
theorem dX3_bestToBribe_9 : decode cX3_bestToBribe 9 = .ok (.getfield 57, 3) := by decide +kernel
theorem dX3_bestToBribe_12 : decode cX3_bestToBribe 12 = .ok (.aload_n 0, 1) := by decide +kernel
theorem dX3_bestToBribe_13 : decode cX3_bestToBribe 13 = .ok (.getfield 10, 3) := by decide +kernel
theorem dX3_bestToBribe_16 : decode cX3_bestToBribe 16 = .ok (.getfield 31, 3) := by decide +kernel
theorem dX3_bestToBribe_19 : decode cX3_bestToBribe 19 = .ok (.getfield 103, 3) := by decide +kernel
theorem dX3_bestToBribe_22 : decode cX3_bestToBribe 22 = .ok (.iload_n 1, 1) := by decide +kernel
theorem dX3_bestToBribe_23 : decode cX3_bestToBribe 23 = .ok (.iaload, 1) := by decide +kernel
theorem dX3_bestToBribe_24 : decode cX3_bestToBribe 24 = .ok (.invokevirtual 163, 3) := by decide +kernel
theorem dX3_bestToBribe_27 : decode cX3_bestToBribe 27 = .ok (.ireturn, 1) := by decide +kernel
set_option maxRecDepth 20000 in
theorem ggX3_bribesWanted_X3_demandVisitor : GoodIn wsX3_bribesWanted wsX3_demandVisitor := goodIn_ca (goodIn_r _ [6, 1, 7, 8, 9, 10, 11, 12, 13, 14, 15, 5, 16, 17, 18, 67, 68, 69, 70, 71, 72, 73, 74, 75, 76, 77, 78, 79, 80, 81] (by decide +kernel) (by decide +kernel)) (goodIn_sub (fun _ h => List.mem_cons_of_mem _ (List.mem_append_right _ h)) (by decide +kernel))
set_option maxRecDepth 20000 in
theorem gX3_bribesWanted_X3_demandVisitor : GoodIn wsX3_bribesWanted (wsV RX3 85 RX3 yX3_demandVisitor wsX3_demandVisitor) := goodIn_app (goodIn_of _ (by decide +kernel)) ggX3_bribesWanted_X3_demandVisitor
set_option maxRecDepth 20000 in
theorem ggX3_bribesWanted_X0_fewestToCalm : GoodIn wsX3_bribesWanted wsX0_fewestToCalm := goodIn_r _ [23, 24, 25, 26, 27, 28, 29, 30, 31, 32, 33, 22, 34, 35, 36, 37, 38, 39, 40, 41, 42, 43, 44, 45, 46, 47, 48, 49, 50, 51, 52, 53, 54, 55, 56, 57, 58, 59, 60, 61, 62, 63, 64, 65, 66, 69, 70, 71, 72, 73, 74, 75, 76, 77, 78, 79, 80, 81, 82, 83, 84, 85, 86] (by decide +kernel) (by decide +kernel)
set_option maxRecDepth 20000 in
theorem gX3_bribesWanted_X0_fewestToCalm : GoodIn wsX3_bribesWanted (wsV RX3 166 RX0 yX0_fewestToCalm wsX0_fewestToCalm) := goodIn_app (goodIn_of _ (by decide +kernel)) ggX3_bribesWanted_X0_fewestToCalm
theorem dX3_bribesWanted_0 : decode cX3_bribesWanted 0 = .ok (.aload_n 0, 1) := by decide +kernel
theorem dX3_bribesWanted_1 : decode cX3_bribesWanted 1 = .ok (.iload_n 1, 1) := by decide +kernel
theorem dX3_bribesWanted_2 : decode cX3_bribesWanted 2 = .ok (.invokevirtual 85, 3) := by decide +kernel
theorem dX3_bribesWanted_5 : decode cX3_bribesWanted 5 = .ok (.aload_n 0, 1) := by decide +kernel
theorem dX3_bribesWanted_6 : decode cX3_bribesWanted 6 = .ok (.getfield 10, 3) := by decide +kernel
theorem dX3_bribesWanted_9 : decode cX3_bribesWanted 9 = .ok (.iload_n 1, 1) := by decide +kernel
theorem dX3_bribesWanted_10 : decode cX3_bribesWanted 10 = .ok (.invokevirtual 166, 3) := by decide +kernel
theorem dX3_bribesWanted_13 : decode cX3_bribesWanted 13 = .ok (.ireturn, 1) := by decide +kernel
set_option maxRecDepth 20000 in
theorem ggX3_rankWanted_X3_demandVisitor : GoodIn wsX3_rankWanted wsX3_demandVisitor := goodIn_ca (goodIn_r _ [9, 1, 2, 10, 11, 12, 13, 14, 15, 16, 17, 8, 18, 19, 20, 54, 55, 56, 57, 58, 59, 60, 61, 62, 63, 64, 65, 66, 67, 68] (by decide +kernel) (by decide +kernel)) (goodIn_sub (fun _ h => List.mem_cons_of_mem _ (List.mem_append_right _ h)) (by decide +kernel))
set_option maxRecDepth 20000 in
theorem gX3_rankWanted_X3_demandVisitor : GoodIn wsX3_rankWanted (wsV RX3 85 RX3 yX3_demandVisitor wsX3_demandVisitor) := goodIn_app (goodIn_of _ (by decide +kernel)) ggX3_rankWanted_X3_demandVisitor
set_option maxRecDepth 20000 in
theorem ggX3_rankWanted_X0_gateHiss : GoodIn wsX3_rankWanted wsX0_gateHiss := goodIn_r _ [25, 26, 27, 28, 29, 24, 30, 31, 32, 33, 34, 35, 36, 37, 38, 39, 40, 41, 42, 43, 44, 45, 46, 47, 48, 49, 50, 51, 52, 53, 56, 57, 58, 59, 60, 61, 62, 69, 70, 71, 72, 73] (by decide +kernel) (by decide +kernel)
set_option maxRecDepth 20000 in
theorem gX3_rankWanted_X0_gateHiss : GoodIn wsX3_rankWanted (wsV RX3 135 RX0 yX0_gateHiss wsX0_gateHiss) := goodIn_app (goodIn_of _ (by decide +kernel)) ggX3_rankWanted_X0_gateHiss
theorem dX3_rankWanted_0 : decode cX3_rankWanted 0 = .ok (.aload_n 0, 1) := by decide +kernel
theorem dX3_rankWanted_1 : decode cX3_rankWanted 1 = .ok (.iload_n 1, 1) := by decide +kernel
theorem dX3_rankWanted_2 : decode cX3_rankWanted 2 = .ok (.invokevirtual 85, 3) := by decide +kernel
theorem dX3_rankWanted_5 : decode cX3_rankWanted 5 = .ok (.aload_n 0, 1) := by decide +kernel
theorem dX3_rankWanted_6 : decode cX3_rankWanted 6 = .ok (.getfield 10, 3) := by decide +kernel
theorem dX3_rankWanted_9 : decode cX3_rankWanted 9 = .ok (.getfield 31, 3) := by decide +kernel
theorem dX3_rankWanted_12 : decode cX3_rankWanted 12 = .ok (.getfield 103, 3) := by decide +kernel
theorem dX3_rankWanted_15 : decode cX3_rankWanted 15 = .ok (.iload_n 1, 1) := by decide +kernel
theorem dX3_rankWanted_16 : decode cX3_rankWanted 16 = .ok (.iaload, 1) := by decide +kernel
theorem dX3_rankWanted_17 : decode cX3_rankWanted 17 = .ok (.istore_n 2, 1) := by decide +kernel
theorem dX3_rankWanted_18 : decode cX3_rankWanted 18 = .ok (.iconst 0, 1) := by decide +kernel
theorem dX3_rankWanted_19 : decode cX3_rankWanted 19 = .ok (.istore_n 3, 1) := by decide +kernel
theorem dX3_rankWanted_20 : decode cX3_rankWanted 20 = .ok (.iload_n 3, 1) := by decide +kernel
theorem dX3_rankWanted_21 : decode cX3_rankWanted 21 = .ok (.bipush 9, 2) := by decide +kernel
theorem dX3_rankWanted_23 : decode cX3_rankWanted 23 = .ok (.if_icmp .gt 35, 3) := by decide +kernel
theorem dX3_rankWanted_26 : decode cX3_rankWanted 26 = .ok (.aload_n 0, 1) := by decide +kernel
theorem dX3_rankWanted_27 : decode cX3_rankWanted 27 = .ok (.getfield 10, 3) := by decide +kernel
theorem dX3_rankWanted_30 : decode cX3_rankWanted 30 = .ok (.iload_n 2, 1) := by decide +kernel
theorem dX3_rankWanted_31 : decode cX3_rankWanted 31 = .ok (.iload_n 3, 1) := by decide +kernel
theorem dX3_rankWanted_32 : decode cX3_rankWanted 32 = .ok (.invokevirtual 135, 3) := by decide +kernel
theorem dX3_rankWanted_35 : decode cX3_rankWanted 35 = .ok (.aload_n 0, 1) := by decide +kernel
theorem dX3_rankWanted_36 : decode cX3_rankWanted 36 = .ok (.getfield 10, 3) := by decide +kernel
theorem dX3_rankWanted_39 : decode cX3_rankWanted 39 = .ok (.getfield 31, 3) := by decide +kernel
theorem dX3_rankWanted_42 : decode cX3_rankWanted 42 = .ok (.getfield 144, 3) := by decide +kernel
theorem dX3_rankWanted_45 : decode cX3_rankWanted 45 = .ok (.iload_n 1, 1) := by decide +kernel
theorem dX3_rankWanted_46 : decode cX3_rankWanted 46 = .ok (.iaload, 1) := by decide +kernel
theorem dX3_rankWanted_47 : decode cX3_rankWanted 47 = .ok (.if_icmp .gt 5, 3) := by decide +kernel
theorem dX3_rankWanted_50 : decode cX3_rankWanted 50 = .ok (.iload_n 3, 1) := by decide +kernel
theorem dX3_rankWanted_51 : decode cX3_rankWanted 51 = .ok (.ireturn, 1) := by decide +kernel
theorem dX3_rankWanted_52 : decode cX3_rankWanted 52 = .ok (.iinc 3 1, 3) := by decide +kernel
theorem dX3_rankWanted_55 : decode cX3_rankWanted 55 = .ok (.goto (-35), 3) := by decide +kernel
theorem dX3_rankWanted_58 : decode cX3_rankWanted 58 = .ok (.iconst (-1), 1) := by decide +kernel
theorem dX3_rankWanted_59 : decode cX3_rankWanted 59 = .ok (.ireturn, 1) := by decide +kernel
set_option maxRecDepth 20000 in
theorem ggX3_firstBar_X3_isRank : GoodIn wsX3_firstBar wsX3_isRank := goodIn_r _ [6, 7, 8, 5, 9] (by decide +kernel) (by decide +kernel)
set_option maxRecDepth 20000 in
theorem gX3_firstBar_X3_isRank : GoodIn wsX3_firstBar (va_wsS RX3 19 yX3_isRank wsX3_isRank) := goodIn_app (goodIn_of _ (by decide +kernel)) ggX3_firstBar_X3_isRank
set_option maxRecDepth 20000 in
theorem ggX3_firstBar_X3_isNerve : GoodIn wsX3_firstBar wsX3_isNerve := goodIn_r _ [12, 7, 8, 5, 9] (by decide +kernel) (by decide +kernel)
set_option maxRecDepth 20000 in
theorem gX3_firstBar_X3_isNerve : GoodIn wsX3_firstBar (va_wsS RX3 68 yX3_isNerve wsX3_isNerve) := goodIn_app (goodIn_of _ (by decide +kernel)) ggX3_firstBar_X3_isNerve
set_option maxRecDepth 20000 in
theorem ggX3_firstBar_X3_demandArgument : GoodIn wsX3_firstBar wsX3_demandArgument := goodIn_ca (goodIn_r _ [15, 16, 17] (by decide +kernel) (by decide +kernel)) (goodIn_sub (fun _ h => List.mem_cons_of_mem _ (List.mem_append_right _ h)) (by decide +kernel))
set_option maxRecDepth 20000 in
theorem gX3_firstBar_X3_demandArgument : GoodIn wsX3_firstBar (va_wsS RX3 23 yX3_demandArgument wsX3_demandArgument) := goodIn_app (goodIn_of _ (by decide +kernel)) ggX3_firstBar_X3_demandArgument
set_option maxRecDepth 20000 in
theorem ggX3_firstBar_X0_gateHiss : GoodIn wsX3_firstBar wsX0_gateHiss := goodIn_r _ [22, 23, 24, 25, 26, 21, 27, 28, 29, 30, 31, 32, 33, 34, 35, 36, 37, 38, 39, 40, 41, 42, 43, 44, 45, 46, 47, 48, 49, 50, 53, 54, 55, 56, 57, 58, 59, 60, 61, 62, 63, 64] (by decide +kernel) (by decide +kernel)
set_option maxRecDepth 20000 in
theorem gX3_firstBar_X0_gateHiss : GoodIn wsX3_firstBar (wsV RX3 135 RX0 yX0_gateHiss wsX0_gateHiss) := goodIn_app (goodIn_of _ (by decide +kernel)) ggX3_firstBar_X0_gateHiss
theorem dX3_firstBar_0 : decode cX3_firstBar 0 = .ok (.iload_n 1, 1) := by decide +kernel
theorem dX3_firstBar_1 : decode cX3_firstBar 1 = .ok (.invokestatic 19, 3) := by decide +kernel
theorem dX3_firstBar_4 : decode cX3_firstBar 4 = .ok (.ifCond .eq 14, 3) := by decide +kernel
theorem dX3_firstBar_7 : decode cX3_firstBar 7 = .ok (.iload_n 2, 1) := by decide +kernel
theorem dX3_firstBar_8 : decode cX3_firstBar 8 = .ok (.invokestatic 68, 3) := by decide +kernel
theorem dX3_firstBar_11 : decode cX3_firstBar 11 = .ok (.ifCond .eq 7, 3) := by decide +kernel
theorem dX3_firstBar_14 : decode cX3_firstBar 14 = .ok (.iconst 1, 1) := by decide +kernel
theorem dX3_firstBar_15 : decode cX3_firstBar 15 = .ok (.goto 4, 3) := by decide +kernel
theorem dX3_firstBar_18 : decode cX3_firstBar 18 = .ok (.iconst 0, 1) := by decide +kernel
theorem dX3_firstBar_19 : decode cX3_firstBar 19 = .ok (.invokestatic 23, 3) := by decide +kernel
theorem dX3_firstBar_22 : decode cX3_firstBar 22 = .ok (.iconst 0, 1) := by decide +kernel
theorem dX3_firstBar_23 : decode cX3_firstBar 23 = .ok (.istore_n 3, 1) := by decide +kernel
theorem dX3_firstBar_24 : decode cX3_firstBar 24 = .ok (.iload_n 3, 1) := by decide +kernel
theorem dX3_firstBar_25 : decode cX3_firstBar 25 = .ok (.aload_n 0, 1) := by decide +kernel
theorem dX3_firstBar_26 : decode cX3_firstBar 26 = .ok (.getfield 10, 3) := by decide +kernel
theorem dX3_firstBar_29 : decode cX3_firstBar 29 = .ok (.getfield 27, 3) := by decide +kernel
theorem dX3_firstBar_32 : decode cX3_firstBar 32 = .ok (.if_icmp .ge 24, 3) := by decide +kernel
theorem dX3_firstBar_35 : decode cX3_firstBar 35 = .ok (.aload_n 0, 1) := by decide +kernel
theorem dX3_firstBar_36 : decode cX3_firstBar 36 = .ok (.getfield 10, 3) := by decide +kernel
theorem dX3_firstBar_39 : decode cX3_firstBar 39 = .ok (.iload_n 3, 1) := by decide +kernel
theorem dX3_firstBar_40 : decode cX3_firstBar 40 = .ok (.iload_n 1, 1) := by decide +kernel
theorem dX3_firstBar_41 : decode cX3_firstBar 41 = .ok (.invokevirtual 135, 3) := by decide +kernel
theorem dX3_firstBar_44 : decode cX3_firstBar 44 = .ok (.iload_n 2, 1) := by decide +kernel
theorem dX3_firstBar_45 : decode cX3_firstBar 45 = .ok (.if_icmp .le 5, 3) := by decide +kernel
theorem dX3_firstBar_48 : decode cX3_firstBar 48 = .ok (.iload_n 3, 1) := by decide +kernel
theorem dX3_firstBar_49 : decode cX3_firstBar 49 = .ok (.ireturn, 1) := by decide +kernel
theorem dX3_firstBar_50 : decode cX3_firstBar 50 = .ok (.iinc 3 1, 3) := by decide +kernel
theorem dX3_firstBar_53 : decode cX3_firstBar 53 = .ok (.goto (-29), 3) := by decide +kernel
theorem dX3_firstBar_56 : decode cX3_firstBar 56 = .ok (.iconst (-1), 1) := by decide +kernel
theorem dX3_firstBar_57 : decode cX3_firstBar 57 = .ok (.ireturn, 1) := by decide +kernel
set_option maxRecDepth 20000 in
theorem ggX3_meanTemper_X1_sumOfTempers : GoodIn wsX3_meanTemper wsX1_sumOfTempers := goodIn_r _ [8, 9, 10, 20, 21, 22, 23, 24] (by decide +kernel) (by decide +kernel)
set_option maxRecDepth 20000 in
theorem gX3_meanTemper_X1_sumOfTempers : GoodIn wsX3_meanTemper (wsV RX3 169 RX1 yX1_sumOfTempers wsX1_sumOfTempers) := goodIn_app (goodIn_of _ (by decide +kernel)) ggX3_meanTemper_X1_sumOfTempers
theorem dX3_meanTemper_0 : decode cX3_meanTemper 0 = .ok (.aload_n 0, 1) := by decide +kernel
theorem dX3_meanTemper_1 : decode cX3_meanTemper 1 = .ok (.getfield 10, 3) := by decide +kernel
theorem dX3_meanTemper_4 : decode cX3_meanTemper 4 = .ok (.getfield 57, 3) := by decide +kernel
theorem dX3_meanTemper_7 : decode cX3_meanTemper 7 = .ok (.getfield 61, 3) := by decide +kernel
theorem dX3_meanTemper_10 : decode cX3_meanTemper 10 = .ok (.istore_n 1, 1) := by decide +kernel
theorem dX3_meanTemper_11 : decode cX3_meanTemper 11 = .ok (.iload_n 1, 1) := by decide +kernel
theorem dX3_meanTemper_12 : decode cX3_meanTemper 12 = .ok (.ifCond .ne 5, 3) := by decide +kernel
theorem dX3_meanTemper_15 : decode cX3_meanTemper 15 = .ok (.dconst 0, 1) := by decide +kernel
theorem dX3_meanTemper_16 : decode cX3_meanTemper 16 = .ok (.dreturn, 1) := by decide +kernel
theorem dX3_meanTemper_17 : decode cX3_meanTemper 17 = .ok (.aload_n 0, 1) := by decide +kernel
theorem dX3_meanTemper_18 : decode cX3_meanTemper 18 = .ok (.getfield 10, 3) := by decide +kernel
theorem dX3_meanTemper_21 : decode cX3_meanTemper 21 = .ok (.getfield 57, 3) := by decide +kernel
theorem dX3_meanTemper_24 : decode cX3_meanTemper 24 = .ok (.invokevirtual 169, 3) := by decide +kernel
theorem dX3_meanTemper_27 : decode cX3_meanTemper 27 = .ok (.i2d, 1) := by decide +kernel
theorem dX3_meanTemper_28 : decode cX3_meanTemper 28 = .ok (.iload_n 1, 1) := by decide +kernel
theorem dX3_meanTemper_29 : decode cX3_meanTemper 29 = .ok (.i2d, 1) := by decide +kernel
theorem dX3_meanTemper_30 : decode cX3_meanTemper 30 = .ok (.ddiv, 1) := by decide +kernel
theorem dX3_meanTemper_31 : decode cX3_meanTemper 31 = .ok (.dreturn, 1) := by decide +kernel
set_option maxRecDepth 20000 in
theorem ggX3_digest_X3_beats : GoodIn wsX3_digest wsX3_beats := goodIn_r _ [9, 2, 10, 292, 293, 294, 295, 296, 297, 298, 299, 300] (by decide +kernel) (by decide +kernel)
set_option maxRecDepth 20000 in
theorem gX3_digest_X3_beats : GoodIn wsX3_digest (wsV RX3 174 RX3 yX3_beats wsX3_beats) := goodIn_app (goodIn_of _ (by decide +kernel)) ggX3_digest_X3_beats
set_option maxRecDepth 20000 in
theorem ggX3_digest_X3_mix : GoodIn wsX3_digest wsX3_mix := goodIn_r _ [13, 14] (by decide +kernel) (by decide +kernel)
set_option maxRecDepth 20000 in
theorem gX3_digest_X3_mix : GoodIn wsX3_digest (va_wsS RX3 177 yX3_mix wsX3_mix) := goodIn_app (goodIn_of _ (by decide +kernel)) ggX3_digest_X3_mix
set_option maxRecDepth 20000 in
theorem ggX3_digest_X3_gates : GoodIn wsX3_digest wsX3_gates := goodIn_r _ [18, 2, 19, 292, 293, 294, 295, 296, 297, 298, 299, 300] (by decide +kernel) (by decide +kernel)
set_option maxRecDepth 20000 in
theorem gX3_digest_X3_gates : GoodIn wsX3_digest (wsV RX3 181 RX3 yX3_gates wsX3_gates) := goodIn_app (goodIn_of _ (by decide +kernel)) ggX3_digest_X3_gates
set_option maxRecDepth 20000 in
theorem ggX3_digest_X3_geese : GoodIn wsX3_digest wsX3_geese := goodIn_r _ [23, 2, 24, 25, 292, 293, 294, 295, 296, 297, 298, 299, 300, 307, 308, 309, 310, 311] (by decide +kernel) (by decide +kernel)
set_option maxRecDepth 20000 in
theorem gX3_digest_X3_geese : GoodIn wsX3_digest (wsV RX3 184 RX3 yX3_geese wsX3_geese) := goodIn_app (goodIn_of _ (by decide +kernel)) ggX3_digest_X3_geese
set_option maxRecDepth 20000 in
theorem ggX3_digest_X3_visitors : GoodIn wsX3_digest wsX3_visitors := goodIn_r _ [29, 2, 3, 4, 292, 293, 294, 295, 296, 297, 298, 299, 300, 301, 302, 303, 304, 305, 306] (by decide +kernel) (by decide +kernel)
set_option maxRecDepth 20000 in
theorem gX3_digest_X3_visitors : GoodIn wsX3_digest (wsV RX3 187 RX3 yX3_visitors wsX3_visitors) := goodIn_app (goodIn_of _ (by decide +kernel)) ggX3_digest_X3_visitors
set_option maxRecDepth 20000 in
theorem ggX3_digest_X3_inFarm : GoodIn wsX3_digest wsX3_inFarm := goodIn_r _ [33, 2, 34, 35, 36, 37, 38, 39, 40, 41, 42, 43, 44, 45, 46, 292, 293, 294, 295, 296, 297, 298, 299, 300, 301, 302, 303, 304, 305, 306] (by decide +kernel) (by decide +kernel)
set_option maxRecDepth 20000 in
theorem gX3_digest_X3_inFarm : GoodIn wsX3_digest (wsV RX3 190 RX3 yX3_inFarm wsX3_inFarm) := goodIn_app (goodIn_of _ (by decide +kernel)) ggX3_digest_X3_inFarm
set_option maxRecDepth 20000 in
theorem ggX3_digest_X3_bribes : GoodIn wsX3_digest wsX3_bribes := goodIn_r _ [50, 2, 51, 292, 293, 294, 295, 296, 297, 298, 299, 300] (by decide +kernel) (by decide +kernel)
set_option maxRecDepth 20000 in
theorem gX3_digest_X3_bribes : GoodIn wsX3_digest (wsV RX3 193 RX3 yX3_bribes wsX3_bribes) := goodIn_app (goodIn_of _ (by decide +kernel)) ggX3_digest_X3_bribes
set_option maxRecDepth 20000 in
theorem ggX3_digest_X3_retreats : GoodIn wsX3_digest wsX3_retreats := goodIn_r _ [55, 2, 56, 292, 293, 294, 295, 296, 297, 298, 299, 300] (by decide +kernel) (by decide +kernel)
set_option maxRecDepth 20000 in
theorem gX3_digest_X3_retreats : GoodIn wsX3_digest (wsV RX3 196 RX3 yX3_retreats wsX3_retreats) := goodIn_app (goodIn_of _ (by decide +kernel)) ggX3_digest_X3_retreats
set_option maxRecDepth 20000 in
theorem ggX3_digest_X3_loudestGate : GoodIn wsX3_digest wsX3_loudestGate := goodIn_r _ [60, 2, 19, 61, 62, 63, 37, 64, 65, 66, 67, 68, 69, 70, 71, 72, 73, 74, 75, 76, 77, 78, 46, 79, 80, 81, 82, 83, 84, 85, 86, 87, 88, 89, 90, 91, 292, 293, 294, 295, 296, 297, 298, 299, 300, 307, 308, 309, 310, 311] (by decide +kernel) (by decide +kernel)
set_option maxRecDepth 20000 in
theorem gX3_digest_X3_loudestGate : GoodIn wsX3_digest (wsV RX3 199 RX3 yX3_loudestGate wsX3_loudestGate) := goodIn_app (goodIn_of _ (by decide +kernel)) ggX3_digest_X3_loudestGate
set_option maxRecDepth 20000 in
theorem ggX3_digest_X3_mixGates : GoodIn wsX3_digest wsX3_mixGates := goodIn_ca (goodIn_r _ [95, 2, 19, 96, 97, 98, 8, 99, 100, 101, 76, 77, 37, 78, 46, 102, 103, 104, 105, 106, 11, 12, 13, 14, 107, 108, 109, 110, 24, 111, 112, 113, 82, 114, 84, 86, 87, 88, 89, 90, 91, 292, 293, 294, 295, 296, 297, 298, 299, 300, 307, 308, 309, 310, 311] (by decide +kernel) (by decide +kernel)) (goodIn_sub (fun _ h => List.mem_cons_of_mem _ (List.mem_append_right _ h)) (by decide +kernel))
set_option maxRecDepth 20000 in
theorem gX3_digest_X3_mixGates : GoodIn wsX3_digest (wsV RX3 202 RX3 yX3_mixGates wsX3_mixGates) := goodIn_app (goodIn_of _ (by decide +kernel)) ggX3_digest_X3_mixGates
set_option maxRecDepth 20000 in
theorem ggX3_digest_X3_mixGeese : GoodIn wsX3_digest wsX3_mixGeese := goodIn_ca (goodIn_r _ [118, 2, 24, 25, 119, 120, 121, 8, 122, 123, 124, 125, 126, 127, 128, 129, 130, 82, 131, 84, 102, 103, 104, 105, 106, 11, 12, 13, 14, 132, 133, 134, 135, 136, 137, 138, 139, 140, 141, 142, 143, 144, 145, 146, 292, 293, 294, 295, 296, 297, 298, 299, 300, 307, 308, 309, 310, 311] (by decide +kernel) (by decide +kernel)) (goodIn_sub (fun _ h => List.mem_cons_of_mem _ (List.mem_append_right _ h)) (by decide +kernel))
set_option maxRecDepth 20000 in
theorem gX3_digest_X3_mixGeese : GoodIn wsX3_digest (wsV RX3 206 RX3 yX3_mixGeese wsX3_mixGeese) := goodIn_app (goodIn_of _ (by decide +kernel)) ggX3_digest_X3_mixGeese
set_option maxRecDepth 20000 in
theorem ggX3_digest_X3_passedBy : GoodIn wsX3_digest wsX3_passedBy := goodIn_ca (goodIn_r _ [150, 2, 3, 151, 152, 153, 154, 8, 155, 156, 157, 158, 159, 160, 161, 102, 103, 104, 105, 106, 292, 293, 294, 295, 296, 297, 298, 299, 300, 301, 302, 303, 304, 305, 306] (by decide +kernel) (by decide +kernel)) (goodIn_sub (fun _ h => List.mem_cons_of_mem _ (List.mem_append_right _ h)) (by decide +kernel))
set_option maxRecDepth 20000 in
theorem gX3_digest_X3_passedBy : GoodIn wsX3_digest (wsV RX3 209 RX3 yX3_passedBy wsX3_passedBy) := goodIn_app (goodIn_of _ (by decide +kernel)) ggX3_digest_X3_passedBy
set_option maxRecDepth 20000 in
theorem ggX3_digest_X3_cornsOf : GoodIn wsX3_digest wsX3_cornsOf := goodIn_ca (goodIn_r _ [165, 2, 3, 166, 152, 153, 154, 8, 155, 156, 157, 158, 159, 160, 161, 102, 103, 104, 105, 106, 292, 293, 294, 295, 296, 297, 298, 299, 300, 301, 302, 303, 304, 305, 306] (by decide +kernel) (by decide +kernel)) (goodIn_sub (fun _ h => List.mem_cons_of_mem _ (List.mem_append_right _ h)) (by decide +kernel))
set_option maxRecDepth 20000 in
theorem gX3_digest_X3_cornsOf : GoodIn wsX3_digest (wsV RX3 212 RX3 yX3_cornsOf wsX3_cornsOf) := goodIn_app (goodIn_of _ (by decide +kernel)) ggX3_digest_X3_cornsOf
set_option maxRecDepth 20000 in
theorem ggX3_digest_X3_nerveOf : GoodIn wsX3_digest wsX3_nerveOf := goodIn_ca (goodIn_r _ [170, 2, 3, 171, 152, 153, 154, 8, 155, 156, 157, 158, 159, 160, 161, 102, 103, 104, 105, 106, 292, 293, 294, 295, 296, 297, 298, 299, 300, 301, 302, 303, 304, 305, 306] (by decide +kernel) (by decide +kernel)) (goodIn_sub (fun _ h => List.mem_cons_of_mem _ (List.mem_append_right _ h)) (by decide +kernel))
set_option maxRecDepth 20000 in
theorem gX3_digest_X3_nerveOf : GoodIn wsX3_digest (wsV RX3 215 RX3 yX3_nerveOf wsX3_nerveOf) := goodIn_app (goodIn_of _ (by decide +kernel)) ggX3_digest_X3_nerveOf
set_option maxRecDepth 20000 in
theorem ggX3_digest_X3_retreatOf : GoodIn wsX3_digest wsX3_retreatOf := goodIn_ca (goodIn_r _ [175, 2, 3, 176, 152, 153, 154, 8, 155, 156, 157, 158, 159, 160, 161, 102, 103, 104, 105, 106, 292, 293, 294, 295, 296, 297, 298, 299, 300, 301, 302, 303, 304, 305, 306] (by decide +kernel) (by decide +kernel)) (goodIn_sub (fun _ h => List.mem_cons_of_mem _ (List.mem_append_right _ h)) (by decide +kernel))
set_option maxRecDepth 20000 in
theorem gX3_digest_X3_retreatOf : GoodIn wsX3_digest (wsV RX3 218 RX3 yX3_retreatOf wsX3_retreatOf) := goodIn_app (goodIn_of _ (by decide +kernel)) ggX3_digest_X3_retreatOf
set_option maxRecDepth 20000 in
theorem ggX3_digest_X3_hissAt : GoodIn wsX3_digest wsX3_hissAt := goodIn_ca (goodIn_r _ [180, 2, 152, 153, 154, 8, 155, 3, 156, 157, 158, 159, 160, 161, 102, 103, 104, 105, 106, 181, 182, 183, 37, 184, 39, 45, 185, 186, 62, 63, 64, 65, 66, 67, 68, 69, 70, 71, 72, 73, 74, 75, 76, 77, 78, 46, 79, 80, 81, 82, 83, 84, 85, 86, 87, 88, 89, 90, 91, 292, 293, 294, 295, 296, 297, 298, 299, 300, 301, 302, 303, 304, 305, 306, 307, 308, 309, 310, 311] (by decide +kernel) (by decide +kernel)) (goodIn_sub (fun _ h => List.mem_cons_of_mem _ (List.mem_append_right _ h)) (by decide +kernel))
set_option maxRecDepth 20000 in
theorem gX3_digest_X3_hissAt : GoodIn wsX3_digest (wsV RX3 221 RX3 yX3_hissAt wsX3_hissAt) := goodIn_app (goodIn_of _ (by decide +kernel)) ggX3_digest_X3_hissAt
set_option maxRecDepth 20000 in
theorem ggX3_digest_X3_dares : GoodIn wsX3_digest wsX3_dares := goodIn_ca (goodIn_r _ [190, 2, 3, 171, 152, 153, 154, 8, 155, 156, 157, 158, 159, 160, 161, 102, 103, 104, 105, 106, 191, 42, 43, 37, 44, 39, 45, 46, 181, 182, 183, 184, 185, 186, 62, 63, 64, 65, 66, 67, 68, 69, 70, 71, 72, 73, 74, 75, 76, 77, 78, 79, 80, 81, 82, 83, 84, 85, 86, 87, 88, 89, 90, 91, 292, 293, 294, 295, 296, 297, 298, 299, 300, 301, 302, 303, 304, 305, 306, 307, 308, 309, 310, 311] (by decide +kernel) (by decide +kernel)) (goodIn_sub (fun _ h => List.mem_cons_of_mem _ (List.mem_append_right _ h)) (by decide +kernel))
set_option maxRecDepth 20000 in
theorem gX3_digest_X3_dares : GoodIn wsX3_digest (wsV RX3 224 RX3 yX3_dares wsX3_dares) := goodIn_app (goodIn_of _ (by decide +kernel)) ggX3_digest_X3_dares
set_option maxRecDepth 20000 in
theorem ggX3_digest_X3_beatsUntilIn : GoodIn wsX3_digest wsX3_beatsUntilIn := goodIn_ca (goodIn_r _ [195, 196, 2, 152, 153, 154, 8, 155, 3, 156, 157, 158, 159, 160, 161, 102, 103, 104, 105, 106, 197, 198, 199, 37, 200, 46, 70, 201, 202, 203, 204, 65, 39, 205, 206, 207, 208, 209, 210, 82, 211, 84, 90, 212, 85, 91, 213, 214, 215, 216, 217, 218, 219, 220, 221, 222, 223, 224, 225, 226, 227, 41, 42, 43, 44, 45, 228, 229, 230, 231, 40, 232, 233, 234, 235, 236, 237, 238, 239, 240, 185, 241, 242, 186, 62, 63, 64, 66, 67, 68, 69, 71, 72, 73, 74, 75, 76, 77, 78, 79, 80, 81, 83, 86, 87, 88, 89, 243, 244, 245, 246, 247, 248, 249, 250, 251, 252, 253, 254, 129, 130, 131, 255, 256, 257, 258, 259, 260, 261, 262, 263, 264, 265, 266, 267, 268, 269, 270, 292, 293, 294, 295, 296, 297, 298, 299, 300, 301, 302, 303, 304, 305, 306, 307, 308, 309, 310, 311] (by decide +kernel) (by decide +kernel)) (goodIn_sub (fun _ h => List.mem_cons_of_mem _ (List.mem_append_right _ h)) (by decide +kernel))
set_option maxRecDepth 20000 in
theorem gX3_digest_X3_beatsUntilIn : GoodIn wsX3_digest (wsV RX3 227 RX3 yX3_beatsUntilIn wsX3_beatsUntilIn) := goodIn_app (goodIn_of _ (by decide +kernel)) ggX3_digest_X3_beatsUntilIn
set_option maxRecDepth 20000 in
theorem ggX3_digest_X3_bestToBribe : GoodIn wsX3_digest wsX3_bestToBribe := goodIn_ca (goodIn_r _ [274, 2, 24, 3, 151, 152, 153, 154, 8, 155, 156, 157, 158, 159, 160, 161, 102, 103, 104, 105, 106, 275, 251, 252, 82, 253, 84, 85, 86, 87, 88, 89, 90, 91, 292, 293, 294, 295, 296, 297, 298, 299, 300, 301, 302, 303, 304, 305, 306, 307, 308, 309, 310, 311] (by decide +kernel) (by decide +kernel)) (goodIn_sub (fun _ h => List.mem_cons_of_mem _ (List.mem_append_right _ h)) (by decide +kernel))
set_option maxRecDepth 20000 in
theorem gX3_digest_X3_bestToBribe : GoodIn wsX3_digest (wsV RX3 230 RX3 yX3_bestToBribe wsX3_bestToBribe) := goodIn_app (goodIn_of _ (by decide +kernel)) ggX3_digest_X3_bestToBribe
set_option maxRecDepth 20000 in
theorem ggX3_digest_X3_bribesWanted : GoodIn wsX3_digest wsX3_bribesWanted := goodIn_ca (goodIn_r _ [279, 2, 152, 153, 154, 8, 155, 3, 156, 157, 158, 159, 160, 161, 102, 103, 104, 105, 106, 280, 281, 282, 37, 283, 39, 45, 185, 65, 284, 241, 285, 66, 67, 68, 69, 70, 71, 72, 73, 74, 75, 76, 77, 78, 46, 286, 182, 183, 184, 186, 62, 63, 64, 79, 80, 81, 82, 83, 84, 85, 86, 87, 88, 89, 90, 91, 287, 292, 293, 294, 295, 296, 297, 298, 299, 300, 301, 302, 303, 304, 305, 306, 307, 308, 309, 310, 311] (by decide +kernel) (by decide +kernel)) (goodIn_sub (fun _ h => List.mem_cons_of_mem _ (List.mem_append_right _ h)) (by decide +kernel))
set_option maxRecDepth 20000 in
theorem gX3_digest_X3_bribesWanted : GoodIn wsX3_digest (wsV RX3 233 RX3 yX3_bribesWanted wsX3_bribesWanted) := goodIn_app (goodIn_of _ (by decide +kernel)) ggX3_digest_X3_bribesWanted
set_option maxRecDepth 20000 in
theorem ggX3_digest_X3_rankWanted : GoodIn wsX3_digest wsX3_rankWanted := goodIn_ca (goodIn_r _ [291, 2, 3, 151, 171, 152, 153, 154, 8, 155, 156, 157, 158, 159, 160, 161, 102, 103, 104, 105, 106, 61, 62, 63, 37, 64, 65, 66, 67, 68, 69, 70, 71, 72, 73, 74, 75, 76, 77, 78, 46, 79, 80, 81, 82, 83, 84, 85, 86, 87, 88, 89, 90, 91, 292, 293, 294, 295, 296, 297, 298, 299, 300, 301, 302, 303, 304, 305, 306, 307, 308, 309, 310, 311] (by decide +kernel) (by decide +kernel)) (goodIn_sub (fun _ h => List.mem_cons_of_mem _ (List.mem_append_right _ h)) (by decide +kernel))
set_option maxRecDepth 20000 in
theorem gX3_digest_X3_rankWanted : GoodIn wsX3_digest (wsV RX3 236 RX3 yX3_rankWanted wsX3_rankWanted) := goodIn_app (goodIn_of _ (by decide +kernel)) ggX3_digest_X3_rankWanted
theorem dX3_digest_0 : decode cX3_digest 0 = .ok (.ldc2_w 172, 3) := by decide +kernel
theorem dX3_digest_3 : decode cX3_digest 3 = .ok (.lstore_n 1, 1) := by decide +kernel
theorem dX3_digest_4 : decode cX3_digest 4 = .ok (.lload_n 1, 1) := by decide +kernel
theorem dX3_digest_5 : decode cX3_digest 5 = .ok (.aload_n 0, 1) := by decide +kernel
theorem dX3_digest_6 : decode cX3_digest 6 = .ok (.invokevirtual 174, 3) := by decide +kernel
theorem dX3_digest_9 : decode cX3_digest 9 = .ok (.i2l, 1) := by decide +kernel
theorem dX3_digest_10 : decode cX3_digest 10 = .ok (.invokestatic 177, 3) := by decide +kernel
theorem dX3_digest_13 : decode cX3_digest 13 = .ok (.lstore_n 1, 1) := by decide +kernel
theorem dX3_digest_14 : decode cX3_digest 14 = .ok (.lload_n 1, 1) := by decide +kernel
theorem dX3_digest_15 : decode cX3_digest 15 = .ok (.aload_n 0, 1) := by decide +kernel
theorem dX3_digest_16 : decode cX3_digest 16 = .ok (.invokevirtual 181, 3) := by decide +kernel
theorem dX3_digest_19 : decode cX3_digest 19 = .ok (.i2l, 1) := by decide +kernel
theorem dX3_digest_20 : decode cX3_digest 20 = .ok (.invokestatic 177, 3) := by decide +kernel
theorem dX3_digest_23 : decode cX3_digest 23 = .ok (.lstore_n 1, 1) := by decide +kernel
theorem dX3_digest_24 : decode cX3_digest 24 = .ok (.lload_n 1, 1) := by decide +kernel
theorem dX3_digest_25 : decode cX3_digest 25 = .ok (.aload_n 0, 1) := by decide +kernel
theorem dX3_digest_26 : decode cX3_digest 26 = .ok (.invokevirtual 184, 3) := by decide +kernel
theorem dX3_digest_29 : decode cX3_digest 29 = .ok (.i2l, 1) := by decide +kernel
theorem dX3_digest_30 : decode cX3_digest 30 = .ok (.invokestatic 177, 3) := by decide +kernel
theorem dX3_digest_33 : decode cX3_digest 33 = .ok (.lstore_n 1, 1) := by decide +kernel
theorem dX3_digest_34 : decode cX3_digest 34 = .ok (.lload_n 1, 1) := by decide +kernel
theorem dX3_digest_35 : decode cX3_digest 35 = .ok (.aload_n 0, 1) := by decide +kernel
theorem dX3_digest_36 : decode cX3_digest 36 = .ok (.invokevirtual 187, 3) := by decide +kernel
theorem dX3_digest_39 : decode cX3_digest 39 = .ok (.i2l, 1) := by decide +kernel
theorem dX3_digest_40 : decode cX3_digest 40 = .ok (.invokestatic 177, 3) := by decide +kernel
theorem dX3_digest_43 : decode cX3_digest 43 = .ok (.lstore_n 1, 1) := by decide +kernel
theorem dX3_digest_44 : decode cX3_digest 44 = .ok (.lload_n 1, 1) := by decide +kernel
theorem dX3_digest_45 : decode cX3_digest 45 = .ok (.aload_n 0, 1) := by decide +kernel
theorem dX3_digest_46 : decode cX3_digest 46 = .ok (.invokevirtual 190, 3) := by decide +kernel
theorem dX3_digest_49 : decode cX3_digest 49 = .ok (.i2l, 1) := by decide +kernel
theorem dX3_digest_50 : decode cX3_digest 50 = .ok (.invokestatic 177, 3) := by decide +kernel
theorem dX3_digest_53 : decode cX3_digest 53 = .ok (.lstore_n 1, 1) := by decide +kernel
theorem dX3_digest_54 : decode cX3_digest 54 = .ok (.lload_n 1, 1) := by decide +kernel
theorem dX3_digest_55 : decode cX3_digest 55 = .ok (.aload_n 0, 1) := by decide +kernel
theorem dX3_digest_56 : decode cX3_digest 56 = .ok (.invokevirtual 193, 3) := by decide +kernel
theorem dX3_digest_59 : decode cX3_digest 59 = .ok (.i2l, 1) := by decide +kernel
theorem dX3_digest_60 : decode cX3_digest 60 = .ok (.invokestatic 177, 3) := by decide +kernel
theorem dX3_digest_63 : decode cX3_digest 63 = .ok (.lstore_n 1, 1) := by decide +kernel
theorem dX3_digest_64 : decode cX3_digest 64 = .ok (.lload_n 1, 1) := by decide +kernel
theorem dX3_digest_65 : decode cX3_digest 65 = .ok (.aload_n 0, 1) := by decide +kernel
theorem dX3_digest_66 : decode cX3_digest 66 = .ok (.invokevirtual 196, 3) := by decide +kernel
theorem dX3_digest_69 : decode cX3_digest 69 = .ok (.i2l, 1) := by decide +kernel
theorem dX3_digest_70 : decode cX3_digest 70 = .ok (.invokestatic 177, 3) := by decide +kernel
theorem dX3_digest_73 : decode cX3_digest 73 = .ok (.lstore_n 1, 1) := by decide +kernel
theorem dX3_digest_74 : decode cX3_digest 74 = .ok (.lload_n 1, 1) := by decide +kernel
theorem dX3_digest_75 : decode cX3_digest 75 = .ok (.aload_n 0, 1) := by decide +kernel
theorem dX3_digest_76 : decode cX3_digest 76 = .ok (.invokevirtual 199, 3) := by decide +kernel
theorem dX3_digest_79 : decode cX3_digest 79 = .ok (.i2l, 1) := by decide +kernel
theorem dX3_digest_80 : decode cX3_digest 80 = .ok (.invokestatic 177, 3) := by decide +kernel
theorem dX3_digest_83 : decode cX3_digest 83 = .ok (.lstore_n 1, 1) := by decide +kernel
theorem dX3_digest_84 : decode cX3_digest 84 = .ok (.aload_n 0, 1) := by decide +kernel
theorem dX3_digest_85 : decode cX3_digest 85 = .ok (.lload_n 1, 1) := by decide +kernel
theorem dX3_digest_86 : decode cX3_digest 86 = .ok (.invokevirtual 202, 3) := by decide +kernel
theorem dX3_digest_89 : decode cX3_digest 89 = .ok (.lstore_n 1, 1) := by decide +kernel
theorem dX3_digest_90 : decode cX3_digest 90 = .ok (.aload_n 0, 1) := by decide +kernel
theorem dX3_digest_91 : decode cX3_digest 91 = .ok (.lload_n 1, 1) := by decide +kernel
theorem dX3_digest_92 : decode cX3_digest 92 = .ok (.invokevirtual 206, 3) := by decide +kernel
theorem dX3_digest_95 : decode cX3_digest 95 = .ok (.lstore_n 1, 1) := by decide +kernel
theorem dX3_digest_96 : decode cX3_digest 96 = .ok (.iconst 0, 1) := by decide +kernel
theorem dX3_digest_97 : decode cX3_digest 97 = .ok (.istore_n 3, 1) := by decide +kernel
theorem dX3_digest_98 : decode cX3_digest 98 = .ok (.iload_n 3, 1) := by decide +kernel
theorem dX3_digest_99 : decode cX3_digest 99 = .ok (.aload_n 0, 1) := by decide +kernel
theorem dX3_digest_100 : decode cX3_digest 100 = .ok (.getfield 10, 3) := by decide +kernel
theorem dX3_digest_103 : decode cX3_digest 103 = .ok (.getfield 31, 3) := by decide +kernel
theorem dX3_digest_106 : decode cX3_digest 106 = .ok (.getfield 35, 3) := by decide +kernel
theorem dX3_digest_109 : decode cX3_digest 109 = .ok (.if_icmp .ge 126, 3) := by decide +kernel
theorem dX3_digest_112 : decode cX3_digest 112 = .ok (.lload_n 1, 1) := by decide +kernel
theorem dX3_digest_113 : decode cX3_digest 113 = .ok (.aload_n 0, 1) := by decide +kernel
theorem dX3_digest_114 : decode cX3_digest 114 = .ok (.iload_n 3, 1) := by decide +kernel
theorem dX3_digest_115 : decode cX3_digest 115 = .ok (.invokevirtual 209, 3) := by decide +kernel
theorem dX3_digest_118 : decode cX3_digest 118 = .ok (.i2l, 1) := by decide +kernel
theorem dX3_digest_119 : decode cX3_digest 119 = .ok (.invokestatic 177, 3) := by decide +kernel
theorem dX3_digest_122 : decode cX3_digest 122 = .ok (.lstore_n 1, 1) := by decide +kernel
theorem dX3_digest_123 : decode cX3_digest 123 = .ok (.lload_n 1, 1) := by decide +kernel
theorem dX3_digest_124 : decode cX3_digest 124 = .ok (.aload_n 0, 1) := by decide +kernel
theorem dX3_digest_125 : decode cX3_digest 125 = .ok (.iload_n 3, 1) := by decide +kernel
theorem dX3_digest_126 : decode cX3_digest 126 = .ok (.invokevirtual 212, 3) := by decide +kernel
theorem dX3_digest_129 : decode cX3_digest 129 = .ok (.i2l, 1) := by decide +kernel
theorem dX3_digest_130 : decode cX3_digest 130 = .ok (.invokestatic 177, 3) := by decide +kernel
theorem dX3_digest_133 : decode cX3_digest 133 = .ok (.lstore_n 1, 1) := by decide +kernel
theorem dX3_digest_134 : decode cX3_digest 134 = .ok (.lload_n 1, 1) := by decide +kernel
theorem dX3_digest_135 : decode cX3_digest 135 = .ok (.aload_n 0, 1) := by decide +kernel
theorem dX3_digest_136 : decode cX3_digest 136 = .ok (.iload_n 3, 1) := by decide +kernel
theorem dX3_digest_137 : decode cX3_digest 137 = .ok (.invokevirtual 215, 3) := by decide +kernel
theorem dX3_digest_140 : decode cX3_digest 140 = .ok (.i2l, 1) := by decide +kernel
theorem dX3_digest_141 : decode cX3_digest 141 = .ok (.invokestatic 177, 3) := by decide +kernel
theorem dX3_digest_144 : decode cX3_digest 144 = .ok (.lstore_n 1, 1) := by decide +kernel
theorem dX3_digest_145 : decode cX3_digest 145 = .ok (.lload_n 1, 1) := by decide +kernel
theorem dX3_digest_146 : decode cX3_digest 146 = .ok (.aload_n 0, 1) := by decide +kernel
theorem dX3_digest_147 : decode cX3_digest 147 = .ok (.iload_n 3, 1) := by decide +kernel
theorem dX3_digest_148 : decode cX3_digest 148 = .ok (.invokevirtual 218, 3) := by decide +kernel
theorem dX3_digest_151 : decode cX3_digest 151 = .ok (.i2l, 1) := by decide +kernel
theorem dX3_digest_152 : decode cX3_digest 152 = .ok (.invokestatic 177, 3) := by decide +kernel
theorem dX3_digest_155 : decode cX3_digest 155 = .ok (.lstore_n 1, 1) := by decide +kernel
theorem dX3_digest_156 : decode cX3_digest 156 = .ok (.lload_n 1, 1) := by decide +kernel
theorem dX3_digest_157 : decode cX3_digest 157 = .ok (.aload_n 0, 1) := by decide +kernel
theorem dX3_digest_158 : decode cX3_digest 158 = .ok (.iload_n 3, 1) := by decide +kernel
theorem dX3_digest_159 : decode cX3_digest 159 = .ok (.invokevirtual 221, 3) := by decide +kernel
theorem dX3_digest_162 : decode cX3_digest 162 = .ok (.i2l, 1) := by decide +kernel
theorem dX3_digest_163 : decode cX3_digest 163 = .ok (.invokestatic 177, 3) := by decide +kernel
theorem dX3_digest_166 : decode cX3_digest 166 = .ok (.lstore_n 1, 1) := by decide +kernel
theorem dX3_digest_167 : decode cX3_digest 167 = .ok (.lload_n 1, 1) := by decide +kernel
theorem dX3_digest_168 : decode cX3_digest 168 = .ok (.aload_n 0, 1) := by decide +kernel
theorem dX3_digest_169 : decode cX3_digest 169 = .ok (.iload_n 3, 1) := by decide +kernel
theorem dX3_digest_170 : decode cX3_digest 170 = .ok (.invokevirtual 224, 3) := by decide +kernel
theorem dX3_digest_173 : decode cX3_digest 173 = .ok (.ifCond .eq 7, 3) := by decide +kernel
theorem dX3_digest_176 : decode cX3_digest 176 = .ok (.lconst 1, 1) := by decide +kernel
theorem dX3_digest_177 : decode cX3_digest 177 = .ok (.goto 4, 3) := by decide +kernel
theorem dX3_digest_180 : decode cX3_digest 180 = .ok (.lconst 0, 1) := by decide +kernel
theorem dX3_digest_181 : decode cX3_digest 181 = .ok (.invokestatic 177, 3) := by decide +kernel
theorem dX3_digest_184 : decode cX3_digest 184 = .ok (.lstore_n 1, 1) := by decide +kernel
theorem dX3_digest_185 : decode cX3_digest 185 = .ok (.lload_n 1, 1) := by decide +kernel
theorem dX3_digest_186 : decode cX3_digest 186 = .ok (.aload_n 0, 1) := by decide +kernel
theorem dX3_digest_187 : decode cX3_digest 187 = .ok (.iload_n 3, 1) := by decide +kernel
theorem dX3_digest_188 : decode cX3_digest 188 = .ok (.invokevirtual 227, 3) := by decide +kernel
theorem dX3_digest_191 : decode cX3_digest 191 = .ok (.i2l, 1) := by decide +kernel
theorem dX3_digest_192 : decode cX3_digest 192 = .ok (.invokestatic 177, 3) := by decide +kernel
theorem dX3_digest_195 : decode cX3_digest 195 = .ok (.lstore_n 1, 1) := by decide +kernel
theorem dX3_digest_196 : decode cX3_digest 196 = .ok (.lload_n 1, 1) := by decide +kernel
theorem dX3_digest_197 : decode cX3_digest 197 = .ok (.aload_n 0, 1) := by decide +kernel
theorem dX3_digest_198 : decode cX3_digest 198 = .ok (.iload_n 3, 1) := by decide +kernel
theorem dX3_digest_199 : decode cX3_digest 199 = .ok (.invokevirtual 230, 3) := by decide +kernel
theorem dX3_digest_202 : decode cX3_digest 202 = .ok (.i2l, 1) := by decide +kernel
theorem dX3_digest_203 : decode cX3_digest 203 = .ok (.invokestatic 177, 3) := by decide +kernel
theorem dX3_digest_206 : decode cX3_digest 206 = .ok (.lstore_n 1, 1) := by decide +kernel
theorem dX3_digest_207 : decode cX3_digest 207 = .ok (.lload_n 1, 1) := by decide +kernel
theorem dX3_digest_208 : decode cX3_digest 208 = .ok (.aload_n 0, 1) := by decide +kernel
theorem dX3_digest_209 : decode cX3_digest 209 = .ok (.iload_n 3, 1) := by decide +kernel
theorem dX3_digest_210 : decode cX3_digest 210 = .ok (.invokevirtual 233, 3) := by decide +kernel
theorem dX3_digest_213 : decode cX3_digest 213 = .ok (.i2l, 1) := by decide +kernel
theorem dX3_digest_214 : decode cX3_digest 214 = .ok (.invokestatic 177, 3) := by decide +kernel
theorem dX3_digest_217 : decode cX3_digest 217 = .ok (.lstore_n 1, 1) := by decide +kernel
theorem dX3_digest_218 : decode cX3_digest 218 = .ok (.lload_n 1, 1) := by decide +kernel
theorem dX3_digest_219 : decode cX3_digest 219 = .ok (.aload_n 0, 1) := by decide +kernel
theorem dX3_digest_220 : decode cX3_digest 220 = .ok (.iload_n 3, 1) := by decide +kernel
theorem dX3_digest_221 : decode cX3_digest 221 = .ok (.invokevirtual 236, 3) := by decide +kernel
theorem dX3_digest_224 : decode cX3_digest 224 = .ok (.i2l, 1) := by decide +kernel
theorem dX3_digest_225 : decode cX3_digest 225 = .ok (.invokestatic 177, 3) := by decide +kernel
theorem dX3_digest_228 : decode cX3_digest 228 = .ok (.lstore_n 1, 1) := by decide +kernel
theorem dX3_digest_229 : decode cX3_digest 229 = .ok (.iinc 3 1, 3) := by decide +kernel
theorem dX3_digest_232 : decode cX3_digest 232 = .ok (.goto (-134), 3) := by decide +kernel
theorem dX3_digest_235 : decode cX3_digest 235 = .ok (.lload_n 1, 1) := by decide +kernel
theorem dX3_digest_236 : decode cX3_digest 236 = .ok (.lreturn, 1) := by decide +kernel
set_option maxRecDepth 20000 in
theorem ggX3_mixGates_X3_rankOf : GoodIn wsX3_mixGates wsX3_rankOf := goodIn_ca (goodIn_r _ [7, 1, 8, 9, 10, 11, 12, 13, 14, 15, 16, 6, 17, 18, 19, 41, 42, 43, 44, 45, 46, 47, 48, 49] (by decide +kernel) (by decide +kernel)) (goodIn_sub (fun _ h => List.mem_cons_of_mem _ (List.mem_append_right _ h)) (by decide +kernel))
set_option maxRecDepth 20000 in
theorem gX3_mixGates_X3_rankOf : GoodIn wsX3_mixGates (wsV RX3 239 RX3 yX3_rankOf wsX3_rankOf) := goodIn_app (goodIn_of _ (by decide +kernel)) ggX3_mixGates_X3_rankOf
set_option maxRecDepth 20000 in
theorem ggX3_mixGates_X3_mix : GoodIn wsX3_mixGates wsX3_mix := goodIn_r _ [22, 23] (by decide +kernel) (by decide +kernel)
set_option maxRecDepth 20000 in
theorem gX3_mixGates_X3_mix : GoodIn wsX3_mixGates (va_wsS RX3 177 yX3_mix wsX3_mix) := goodIn_app (goodIn_of _ (by decide +kernel)) ggX3_mixGates_X3_mix
set_option maxRecDepth 20000 in
theorem ggX3_mixGates_X3_awakeAt : GoodIn wsX3_mixGates wsX3_awakeAt := goodIn_ca (goodIn_r _ [27, 1, 28, 9, 10, 11, 12, 13, 14, 15, 16, 6, 17, 18, 19, 29, 30, 31, 32, 33, 34, 35, 36, 37, 38, 39, 40, 41, 42, 43, 44, 45, 46, 47, 48, 49, 50, 51, 52, 53, 54] (by decide +kernel) (by decide +kernel)) (goodIn_sub (fun _ h => List.mem_cons_of_mem _ (List.mem_append_right _ h)) (by decide +kernel))
set_option maxRecDepth 20000 in
theorem gX3_mixGates_X3_awakeAt : GoodIn wsX3_mixGates (wsV RX3 242 RX3 yX3_awakeAt wsX3_awakeAt) := goodIn_app (goodIn_of _ (by decide +kernel)) ggX3_mixGates_X3_awakeAt
theorem dX3_mixGates_0 : decode cX3_mixGates 0 = .ok (.lload_n 1, 1) := by decide +kernel
theorem dX3_mixGates_1 : decode cX3_mixGates 1 = .ok (.lstore_n 3, 1) := by decide +kernel
theorem dX3_mixGates_2 : decode cX3_mixGates 2 = .ok (.iconst 0, 1) := by decide +kernel
theorem dX3_mixGates_3 : decode cX3_mixGates 3 = .ok (.istore 5, 2) := by decide +kernel
theorem dX3_mixGates_5 : decode cX3_mixGates 5 = .ok (.iload 5, 2) := by decide +kernel
theorem dX3_mixGates_7 : decode cX3_mixGates 7 = .ok (.aload_n 0, 1) := by decide +kernel
theorem dX3_mixGates_8 : decode cX3_mixGates 8 = .ok (.getfield 10, 3) := by decide +kernel
theorem dX3_mixGates_11 : decode cX3_mixGates 11 = .ok (.getfield 27, 3) := by decide +kernel
theorem dX3_mixGates_14 : decode cX3_mixGates 14 = .ok (.if_icmp .ge 33, 3) := by decide +kernel
theorem dX3_mixGates_17 : decode cX3_mixGates 17 = .ok (.lload_n 3, 1) := by decide +kernel
theorem dX3_mixGates_18 : decode cX3_mixGates 18 = .ok (.aload_n 0, 1) := by decide +kernel
theorem dX3_mixGates_19 : decode cX3_mixGates 19 = .ok (.iload 5, 2) := by decide +kernel
theorem dX3_mixGates_21 : decode cX3_mixGates 21 = .ok (.invokevirtual 239, 3) := by decide +kernel
theorem dX3_mixGates_24 : decode cX3_mixGates 24 = .ok (.i2l, 1) := by decide +kernel
theorem dX3_mixGates_25 : decode cX3_mixGates 25 = .ok (.invokestatic 177, 3) := by decide +kernel
theorem dX3_mixGates_28 : decode cX3_mixGates 28 = .ok (.lstore_n 3, 1) := by decide +kernel
theorem dX3_mixGates_29 : decode cX3_mixGates 29 = .ok (.lload_n 3, 1) := by decide +kernel
theorem dX3_mixGates_30 : decode cX3_mixGates 30 = .ok (.aload_n 0, 1) := by decide +kernel
theorem dX3_mixGates_31 : decode cX3_mixGates 31 = .ok (.iload 5, 2) := by decide +kernel
theorem dX3_mixGates_33 : decode cX3_mixGates 33 = .ok (.invokevirtual 242, 3) := by decide +kernel
theorem dX3_mixGates_36 : decode cX3_mixGates 36 = .ok (.i2l, 1) := by decide +kernel
theorem dX3_mixGates_37 : decode cX3_mixGates 37 = .ok (.invokestatic 177, 3) := by decide +kernel
theorem dX3_mixGates_40 : decode cX3_mixGates 40 = .ok (.lstore_n 3, 1) := by decide +kernel
theorem dX3_mixGates_41 : decode cX3_mixGates 41 = .ok (.iinc 5 1, 3) := by decide +kernel
theorem dX3_mixGates_44 : decode cX3_mixGates 44 = .ok (.goto (-39), 3) := by decide +kernel
theorem dX3_mixGates_47 : decode cX3_mixGates 47 = .ok (.lload_n 3, 1) := by decide +kernel
theorem dX3_mixGates_48 : decode cX3_mixGates 48 = .ok (.lreturn, 1) := by decide +kernel
set_option maxRecDepth 20000 in
theorem ggX3_mixGeese_X3_gateOf : GoodIn wsX3_mixGeese wsX3_gateOf := goodIn_ca (goodIn_r _ [8, 1, 2, 9, 10, 11, 12, 7, 13, 14, 15, 16, 17, 18, 19, 20, 21, 22, 23, 24, 44, 45, 46, 47, 48, 49, 50, 51, 52, 53, 54, 55, 56, 57] (by decide +kernel) (by decide +kernel)) (goodIn_sub (fun _ h => List.mem_cons_of_mem _ (List.mem_append_right _ h)) (by decide +kernel))
set_option maxRecDepth 20000 in
theorem gX3_mixGeese_X3_gateOf : GoodIn wsX3_mixGeese (wsV RX3 245 RX3 yX3_gateOf wsX3_gateOf) := goodIn_app (goodIn_of _ (by decide +kernel)) ggX3_mixGeese_X3_gateOf
set_option maxRecDepth 20000 in
theorem ggX3_mixGeese_X3_mix : GoodIn wsX3_mixGeese wsX3_mix := goodIn_r _ [27, 28] (by decide +kernel) (by decide +kernel)
set_option maxRecDepth 20000 in
theorem gX3_mixGeese_X3_mix : GoodIn wsX3_mixGeese (va_wsS RX3 177 yX3_mix wsX3_mix) := goodIn_app (goodIn_of _ (by decide +kernel)) ggX3_mixGeese_X3_mix
set_option maxRecDepth 20000 in
theorem ggX3_mixGeese_X3_temperOf : GoodIn wsX3_mixGeese wsX3_temperOf := goodIn_ca (goodIn_r _ [32, 1, 2, 33, 10, 11, 12, 7, 13, 14, 15, 16, 17, 18, 19, 20, 21, 22, 23, 24, 44, 45, 46, 47, 48, 49, 50, 51, 52, 53, 54, 55, 56, 57] (by decide +kernel) (by decide +kernel)) (goodIn_sub (fun _ h => List.mem_cons_of_mem _ (List.mem_append_right _ h)) (by decide +kernel))
set_option maxRecDepth 20000 in
theorem gX3_mixGeese_X3_temperOf : GoodIn wsX3_mixGeese (wsV RX3 248 RX3 yX3_temperOf wsX3_temperOf) := goodIn_app (goodIn_of _ (by decide +kernel)) ggX3_mixGeese_X3_temperOf
set_option maxRecDepth 20000 in
theorem ggX3_mixGeese_X3_calmFor : GoodIn wsX3_mixGeese wsX3_calmFor := goodIn_ca (goodIn_r _ [37, 1, 2, 38, 10, 11, 12, 7, 13, 14, 15, 16, 17, 18, 19, 20, 21, 22, 23, 24, 44, 45, 46, 47, 48, 49, 50, 51, 52, 53, 54, 55, 56, 57] (by decide +kernel) (by decide +kernel)) (goodIn_sub (fun _ h => List.mem_cons_of_mem _ (List.mem_append_right _ h)) (by decide +kernel))
set_option maxRecDepth 20000 in
theorem gX3_mixGeese_X3_calmFor : GoodIn wsX3_mixGeese (wsV RX3 251 RX3 yX3_calmFor wsX3_calmFor) := goodIn_app (goodIn_of _ (by decide +kernel)) ggX3_mixGeese_X3_calmFor
set_option maxRecDepth 20000 in
theorem ggX3_mixGeese_X3_eatenBy : GoodIn wsX3_mixGeese wsX3_eatenBy := goodIn_ca (goodIn_r _ [42, 1, 2, 43, 10, 11, 12, 7, 13, 14, 15, 16, 17, 18, 19, 20, 21, 22, 23, 24, 44, 45, 46, 47, 48, 49, 50, 51, 52, 53, 54, 55, 56, 57] (by decide +kernel) (by decide +kernel)) (goodIn_sub (fun _ h => List.mem_cons_of_mem _ (List.mem_append_right _ h)) (by decide +kernel))
set_option maxRecDepth 20000 in
theorem gX3_mixGeese_X3_eatenBy : GoodIn wsX3_mixGeese (wsV RX3 254 RX3 yX3_eatenBy wsX3_eatenBy) := goodIn_app (goodIn_of _ (by decide +kernel)) ggX3_mixGeese_X3_eatenBy
theorem dX3_mixGeese_0 : decode cX3_mixGeese 0 = .ok (.lload_n 1, 1) := by decide +kernel
theorem dX3_mixGeese_1 : decode cX3_mixGeese 1 = .ok (.lstore_n 3, 1) := by decide +kernel
theorem dX3_mixGeese_2 : decode cX3_mixGeese 2 = .ok (.iconst 0, 1) := by decide +kernel
theorem dX3_mixGeese_3 : decode cX3_mixGeese 3 = .ok (.istore 5, 2) := by decide +kernel
theorem dX3_mixGeese_5 : decode cX3_mixGeese 5 = .ok (.iload 5, 2) := by decide +kernel
theorem dX3_mixGeese_7 : decode cX3_mixGeese 7 = .ok (.aload_n 0, 1) := by decide +kernel
theorem dX3_mixGeese_8 : decode cX3_mixGeese 8 = .ok (.getfield 10, 3) := by decide +kernel
theorem dX3_mixGeese_11 : decode cX3_mixGeese 11 = .ok (.getfield 57, 3) := by decide +kernel
theorem dX3_mixGeese_14 : decode cX3_mixGeese 14 = .ok (.getfield 61, 3) := by decide +kernel
theorem dX3_mixGeese_17 : decode cX3_mixGeese 17 = .ok (.if_icmp .ge 57, 3) := by decide +kernel
theorem dX3_mixGeese_20 : decode cX3_mixGeese 20 = .ok (.lload_n 3, 1) := by decide +kernel
theorem dX3_mixGeese_21 : decode cX3_mixGeese 21 = .ok (.aload_n 0, 1) := by decide +kernel
theorem dX3_mixGeese_22 : decode cX3_mixGeese 22 = .ok (.iload 5, 2) := by decide +kernel
theorem dX3_mixGeese_24 : decode cX3_mixGeese 24 = .ok (.invokevirtual 245, 3) := by decide +kernel
theorem dX3_mixGeese_27 : decode cX3_mixGeese 27 = .ok (.i2l, 1) := by decide +kernel
theorem dX3_mixGeese_28 : decode cX3_mixGeese 28 = .ok (.invokestatic 177, 3) := by decide +kernel
theorem dX3_mixGeese_31 : decode cX3_mixGeese 31 = .ok (.lstore_n 3, 1) := by decide +kernel
theorem dX3_mixGeese_32 : decode cX3_mixGeese 32 = .ok (.lload_n 3, 1) := by decide +kernel
theorem dX3_mixGeese_33 : decode cX3_mixGeese 33 = .ok (.aload_n 0, 1) := by decide +kernel
theorem dX3_mixGeese_34 : decode cX3_mixGeese 34 = .ok (.iload 5, 2) := by decide +kernel
theorem dX3_mixGeese_36 : decode cX3_mixGeese 36 = .ok (.invokevirtual 248, 3) := by decide +kernel
theorem dX3_mixGeese_39 : decode cX3_mixGeese 39 = .ok (.i2l, 1) := by decide +kernel
theorem dX3_mixGeese_40 : decode cX3_mixGeese 40 = .ok (.invokestatic 177, 3) := by decide +kernel
theorem dX3_mixGeese_43 : decode cX3_mixGeese 43 = .ok (.lstore_n 3, 1) := by decide +kernel
theorem dX3_mixGeese_44 : decode cX3_mixGeese 44 = .ok (.lload_n 3, 1) := by decide +kernel
theorem dX3_mixGeese_45 : decode cX3_mixGeese 45 = .ok (.aload_n 0, 1) := by decide +kernel
theorem dX3_mixGeese_46 : decode cX3_mixGeese 46 = .ok (.iload 5, 2) := by decide +kernel
theorem dX3_mixGeese_48 : decode cX3_mixGeese 48 = .ok (.invokevirtual 251, 3) := by decide +kernel
theorem dX3_mixGeese_51 : decode cX3_mixGeese 51 = .ok (.i2l, 1) := by decide +kernel
theorem dX3_mixGeese_52 : decode cX3_mixGeese 52 = .ok (.invokestatic 177, 3) := by decide +kernel
theorem dX3_mixGeese_55 : decode cX3_mixGeese 55 = .ok (.lstore_n 3, 1) := by decide +kernel
theorem dX3_mixGeese_56 : decode cX3_mixGeese 56 = .ok (.lload_n 3, 1) := by decide +kernel
theorem dX3_mixGeese_57 : decode cX3_mixGeese 57 = .ok (.aload_n 0, 1) := by decide +kernel
theorem dX3_mixGeese_58 : decode cX3_mixGeese 58 = .ok (.iload 5, 2) := by decide +kernel
theorem dX3_mixGeese_60 : decode cX3_mixGeese 60 = .ok (.invokevirtual 254, 3) := by decide +kernel
theorem dX3_mixGeese_63 : decode cX3_mixGeese 63 = .ok (.i2l, 1) := by decide +kernel
theorem dX3_mixGeese_64 : decode cX3_mixGeese 64 = .ok (.invokestatic 177, 3) := by decide +kernel
theorem dX3_mixGeese_67 : decode cX3_mixGeese 67 = .ok (.lstore_n 3, 1) := by decide +kernel
theorem dX3_mixGeese_68 : decode cX3_mixGeese 68 = .ok (.iinc 5 1, 3) := by decide +kernel
theorem dX3_mixGeese_71 : decode cX3_mixGeese 71 = .ok (.goto (-66), 3) := by decide +kernel
theorem dX3_mixGeese_74 : decode cX3_mixGeese 74 = .ok (.lload_n 3, 1) := by decide +kernel
theorem dX3_mixGeese_75 : decode cX3_mixGeese 75 = .ok (.lreturn, 1) := by decide +kernel
theorem dX3_mix_0 : decode cX3_mix 0 = .ok (.lload_n 0, 1) := by decide +kernel
theorem dX3_mix_1 : decode cX3_mix 1 = .ok (.ldc2_w 257, 3) := by decide +kernel
theorem dX3_mix_4 : decode cX3_mix 4 = .ok (.lmul, 1) := by decide +kernel
theorem dX3_mix_5 : decode cX3_mix 5 = .ok (.lload_n 2, 1) := by decide +kernel
theorem dX3_mix_6 : decode cX3_mix 6 = .ok (.ladd, 1) := by decide +kernel
theorem dX3_mix_7 : decode cX3_mix 7 = .ok (.lreturn, 1) := by decide +kernel
theorem dX3_isWithin_0 : decode cX3_isWithin 0 = .ok (.iload_n 0, 1) := by decide +kernel
theorem dX3_isWithin_1 : decode cX3_isWithin 1 = .ok (.iload_n 1, 1) := by decide +kernel
theorem dX3_isWithin_2 : decode cX3_isWithin 2 = .ok (.if_icmp .lt 12, 3) := by decide +kernel
theorem dX3_isWithin_5 : decode cX3_isWithin 5 = .ok (.iload_n 0, 1) := by decide +kernel
theorem dX3_isWithin_6 : decode cX3_isWithin 6 = .ok (.iload_n 2, 1) := by decide +kernel
theorem dX3_isWithin_7 : decode cX3_isWithin 7 = .ok (.if_icmp .gt 7, 3) := by decide +kernel
theorem dX3_isWithin_10 : decode cX3_isWithin 10 = .ok (.iconst 1, 1) := by decide +kernel
theorem dX3_isWithin_11 : decode cX3_isWithin 11 = .ok (.goto 4, 3) := by decide +kernel
theorem dX3_isWithin_14 : decode cX3_isWithin 14 = .ok (.iconst 0, 1) := by decide +kernel
theorem dX3_isWithin_15 : decode cX3_isWithin 15 = .ok (.ireturn, 1) := by decide +kernel
set_option maxRecDepth 20000 in
theorem ggX3_isRank_X3_isWithin : GoodIn wsX3_isRank wsX3_isWithin := goodIn_r _ [4] (by decide +kernel) (by decide +kernel)
set_option maxRecDepth 20000 in
theorem gX3_isRank_X3_isWithin : GoodIn wsX3_isRank (va_wsS RX3 53 yX3_isWithin wsX3_isWithin) := goodIn_app (goodIn_of _ (by decide +kernel)) ggX3_isRank_X3_isWithin
theorem dX3_isRank_0 : decode cX3_isRank 0 = .ok (.iload_n 0, 1) := by decide +kernel
theorem dX3_isRank_1 : decode cX3_isRank 1 = .ok (.iconst 0, 1) := by decide +kernel
theorem dX3_isRank_2 : decode cX3_isRank 2 = .ok (.bipush 9, 2) := by decide +kernel
theorem dX3_isRank_4 : decode cX3_isRank 4 = .ok (.invokestatic 53, 3) := by decide +kernel
theorem dX3_isRank_7 : decode cX3_isRank 7 = .ok (.ireturn, 1) := by decide +kernel
set_option maxRecDepth 20000 in
theorem ggX3_isNerve_X3_isWithin : GoodIn wsX3_isNerve wsX3_isWithin := goodIn_r _ [4] (by decide +kernel) (by decide +kernel)
set_option maxRecDepth 20000 in
theorem gX3_isNerve_X3_isWithin : GoodIn wsX3_isNerve (va_wsS RX3 53 yX3_isWithin wsX3_isWithin) := goodIn_app (goodIn_of _ (by decide +kernel)) ggX3_isNerve_X3_isWithin
theorem dX3_isNerve_0 : decode cX3_isNerve 0 = .ok (.iload_n 0, 1) := by decide +kernel
theorem dX3_isNerve_1 : decode cX3_isNerve 1 = .ok (.iconst 0, 1) := by decide +kernel
theorem dX3_isNerve_2 : decode cX3_isNerve 2 = .ok (.bipush 20, 2) := by decide +kernel
theorem dX3_isNerve_4 : decode cX3_isNerve 4 = .ok (.invokestatic 53, 3) := by decide +kernel
theorem dX3_isNerve_7 : decode cX3_isNerve 7 = .ok (.ireturn, 1) := by decide +kernel
set_option maxRecDepth 20000 in
theorem ggX3_isBeats_X3_isWithin : GoodIn wsX3_isBeats wsX3_isWithin := goodIn_r _ [4] (by decide +kernel) (by decide +kernel)
set_option maxRecDepth 20000 in
theorem gX3_isBeats_X3_isWithin : GoodIn wsX3_isBeats (va_wsS RX3 53 yX3_isWithin wsX3_isWithin) := goodIn_app (goodIn_of _ (by decide +kernel)) ggX3_isBeats_X3_isWithin
theorem dX3_isBeats_0 : decode cX3_isBeats 0 = .ok (.iload_n 0, 1) := by decide +kernel
theorem dX3_isBeats_1 : decode cX3_isBeats 1 = .ok (.iconst 1, 1) := by decide +kernel
theorem dX3_isBeats_2 : decode cX3_isBeats 2 = .ok (.bipush 60, 2) := by decide +kernel
theorem dX3_isBeats_4 : decode cX3_isBeats 4 = .ok (.invokestatic 53, 3) := by decide +kernel
theorem dX3_isBeats_7 : decode cX3_isBeats 7 = .ok (.ireturn, 1) := by decide +kernel
set_option maxRecDepth 20000 in
theorem ggX3_demandGoose_X1_hasGoose : GoodIn wsX3_demandGoose wsX1_hasGoose := goodIn_r _ [7, 8, 24, 25, 26, 27, 28] (by decide +kernel) (by decide +kernel)
set_option maxRecDepth 20000 in
theorem gX3_demandGoose_X1_hasGoose : GoodIn wsX3_demandGoose (wsV RX3 79 RX1 yX1_hasGoose wsX1_hasGoose) := goodIn_app (goodIn_of _ (by decide +kernel)) ggX3_demandGoose_X1_hasGoose
set_option maxRecDepth 20000 in
theorem ggX3_demandGoose_X3_demandIndex : GoodIn wsX3_demandGoose wsX3_demandIndex := goodIn_ca (goodIn_r _ [12, 13, 14] (by decide +kernel) (by decide +kernel)) (goodIn_sub (fun _ h => List.mem_cons_of_mem _ (List.mem_append_right _ h)) (by decide +kernel))
set_option maxRecDepth 20000 in
theorem gX3_demandGoose_X3_demandIndex : GoodIn wsX3_demandGoose (va_wsS RX3 50 yX3_demandIndex wsX3_demandIndex) := goodIn_app (goodIn_of _ (by decide +kernel)) ggX3_demandGoose_X3_demandIndex
theorem dX3_demandGoose_0 : decode cX3_demandGoose 0 = .ok (.aload_n 0, 1) := by decide +kernel
theorem dX3_demandGoose_1 : decode cX3_demandGoose 1 = .ok (.getfield 10, 3) := by decide +kernel
theorem dX3_demandGoose_4 : decode cX3_demandGoose 4 = .ok (.getfield 57, 3) := by decide +kernel
theorem dX3_demandGoose_7 : decode cX3_demandGoose 7 = .ok (.iload_n 1, 1) := by decide +kernel
theorem dX3_demandGoose_8 : decode cX3_demandGoose 8 = .ok (.invokevirtual 79, 3) := by decide +kernel
theorem dX3_demandGoose_11 : decode cX3_demandGoose 11 = .ok (.invokestatic 50, 3) := by decide +kernel
theorem dX3_demandGoose_14 : decode cX3_demandGoose 14 = .ok (.return_, 1) := by decide +kernel
set_option maxRecDepth 20000 in
theorem ggX3_demandVisitor_X2_hasGuest : GoodIn wsX3_demandVisitor wsX2_hasGuest := goodIn_r _ [7, 8, 24, 25, 26, 27, 28, 29] (by decide +kernel) (by decide +kernel)
set_option maxRecDepth 20000 in
theorem gX3_demandVisitor_X2_hasGuest : GoodIn wsX3_demandVisitor (wsV RX3 259 RX2 yX2_hasGuest wsX2_hasGuest) := goodIn_app (goodIn_of _ (by decide +kernel)) ggX3_demandVisitor_X2_hasGuest
set_option maxRecDepth 20000 in
theorem ggX3_demandVisitor_X3_demandIndex : GoodIn wsX3_demandVisitor wsX3_demandIndex := goodIn_ca (goodIn_r _ [12, 13, 14] (by decide +kernel) (by decide +kernel)) (goodIn_sub (fun _ h => List.mem_cons_of_mem _ (List.mem_append_right _ h)) (by decide +kernel))
set_option maxRecDepth 20000 in
theorem gX3_demandVisitor_X3_demandIndex : GoodIn wsX3_demandVisitor (va_wsS RX3 50 yX3_demandIndex wsX3_demandIndex) := goodIn_app (goodIn_of _ (by decide +kernel)) ggX3_demandVisitor_X3_demandIndex
theorem dX3_demandVisitor_0 : decode cX3_demandVisitor 0 = .ok (.aload_n 0, 1) := by decide +kernel
theorem dX3_demandVisitor_1 : decode cX3_demandVisitor 1 = .ok (.getfield 10, 3) := by decide +kernel
theorem dX3_demandVisitor_4 : decode cX3_demandVisitor 4 = .ok (.getfield 31, 3) := by decide +kernel
theorem dX3_demandVisitor_7 : decode cX3_demandVisitor 7 = .ok (.iload_n 1, 1) := by decide +kernel
theorem dX3_demandVisitor_8 : decode cX3_demandVisitor 8 = .ok (.invokevirtual 259, 3) := by decide +kernel
theorem dX3_demandVisitor_11 : decode cX3_demandVisitor 11 = .ok (.invokestatic 50, 3) := by decide +kernel
theorem dX3_demandVisitor_14 : decode cX3_demandVisitor 14 = .ok (.return_, 1) := by decide +kernel
theorem dX3_demandIndex_0 : decode cX3_demandIndex 0 = .ok (.iload_n 0, 1) := by decide +kernel
theorem dX3_demandIndex_1 : decode cX3_demandIndex 1 = .ok (.ifCond .ne 14, 3) := by decide +kernel
theorem dX3_demandIndex_4 : decode cX3_demandIndex 4 = .ok (.new 262, 3) := by decide +kernel
theorem dX3_demandIndex_7 : decode cX3_demandIndex 7 = .ok (.dup, 1) := by decide +kernel
theorem dX3_demandIndex_8 : decode cX3_demandIndex 8 = .ok (.ldc_w 264, 3) := by decide +kernel
theorem dX3_demandIndex_11 : decode cX3_demandIndex 11 = .ok (.invokespecial 266, 3) := by decide +kernel
theorem dX3_demandIndex_14 : decode cX3_demandIndex 14 = .ok (.athrow, 1) := by decide +kernel
theorem dX3_demandIndex_15 : decode cX3_demandIndex 15 = .ok (.return_, 1) := by decide +kernel
theorem dX3_demandArgument_0 : decode cX3_demandArgument 0 = .ok (.iload_n 0, 1) := by decide +kernel
theorem dX3_demandArgument_1 : decode cX3_demandArgument 1 = .ok (.ifCond .ne 14, 3) := by decide +kernel
theorem dX3_demandArgument_4 : decode cX3_demandArgument 4 = .ok (.new 269, 3) := by decide +kernel
theorem dX3_demandArgument_7 : decode cX3_demandArgument 7 = .ok (.dup, 1) := by decide +kernel
theorem dX3_demandArgument_8 : decode cX3_demandArgument 8 = .ok (.ldc_w 271, 3) := by decide +kernel
theorem dX3_demandArgument_11 : decode cX3_demandArgument 11 = .ok (.invokespecial 273, 3) := by decide +kernel
theorem dX3_demandArgument_14 : decode cX3_demandArgument 14 = .ok (.athrow, 1) := by decide +kernel
theorem dX3_demandArgument_15 : decode cX3_demandArgument 15 = .ok (.return_, 1) := by decide +kernel
theorem dX3_demandState_0 : decode cX3_demandState 0 = .ok (.iload_n 0, 1) := by decide +kernel
theorem dX3_demandState_1 : decode cX3_demandState 1 = .ok (.ifCond .ne 14, 3) := by decide +kernel
theorem dX3_demandState_4 : decode cX3_demandState 4 = .ok (.new 274, 3) := by decide +kernel
theorem dX3_demandState_7 : decode cX3_demandState 7 = .ok (.dup, 1) := by decide +kernel
theorem dX3_demandState_8 : decode cX3_demandState 8 = .ok (.ldc_w 276, 3) := by decide +kernel
theorem dX3_demandState_11 : decode cX3_demandState 11 = .ok (.invokespecial 278, 3) := by decide +kernel
theorem dX3_demandState_14 : decode cX3_demandState 14 = .ok (.athrow, 1) := by decide +kernel
theorem dX3_demandState_15 : decode cX3_demandState 15 = .ok (.return_, 1) := by decide +kernel
