set_option maxRecDepth 20000 in
theorem ggX0_init_X1_init : GoodIn wsX0_init wsX1_init := goodIn_r _ [15, 16, 2, 3, 4, 17, 18, 19, 20, 36, 37, 38, 39, 40] (by decide +kernel) (by decide +kernel)
set_option maxRecDepth 20000 in
theorem gX0_init_X1_init_n17 : GoodIn wsX0_init (wsX1_init) := ggX0_init_X1_init
set_option maxRecDepth 20000 in
theorem ggX0_init_X2_init : GoodIn wsX0_init wsX2_init := goodIn_r _ [22, 23, 2, 3, 4, 24, 25, 26, 27, 28, 41, 42, 43, 44, 45, 46] (by decide +kernel) (by decide +kernel)
set_option maxRecDepth 20000 in
theorem gX0_init_X2_init_n24 : GoodIn wsX0_init (wsX2_init) := ggX0_init_X2_init
theorem dX0_init_0 : decode cX0_init 0 = .ok (.aload_n 0, 1) := by decide +kernel
theorem dX0_init_1 : decode cX0_init 1 = .ok (.invokespecial 3, 3) := by decide +kernel
theorem dX0_init_4 : decode cX0_init 4 = .ok (.aload_n 0, 1) := by decide +kernel
theorem dX0_init_5 : decode cX0_init 5 = .ok (.bipush 6, 2) := by decide +kernel
theorem dX0_init_7 : decode cX0_init 7 = .ok (.newarray .int, 2) := by decide +kernel
theorem dX0_init_9 : decode cX0_init 9 = .ok (.putfield 9, 3) := by decide +kernel
theorem dX0_init_12 : decode cX0_init 12 = .ok (.aload_n 0, 1) := by decide +kernel
theorem dX0_init_13 : decode cX0_init 13 = .ok (.new 15, 3) := by decide +kernel
theorem dX0_init_16 : decode cX0_init 16 = .ok (.dup, 1) := by decide +kernel
theorem dX0_init_17 : decode cX0_init 17 = .ok (.invokespecial 17, 3) := by decide +kernel
theorem dX0_init_20 : decode cX0_init 20 = .ok (.putfield 18, 3) := by decide +kernel
theorem dX0_init_23 : decode cX0_init 23 = .ok (.aload_n 0, 1) := by decide +kernel
theorem dX0_init_24 : decode cX0_init 24 = .ok (.new 22, 3) := by decide +kernel
theorem dX0_init_27 : decode cX0_init 27 = .ok (.dup, 1) := by decide +kernel
theorem dX0_init_28 : decode cX0_init 28 = .ok (.invokespecial 24, 3) := by decide +kernel
theorem dX0_init_31 : decode cX0_init 31 = .ok (.putfield 25, 3) := by decide +kernel
theorem dX0_init_34 : decode cX0_init 34 = .ok (.return_, 1) := by decide +kernel
theorem dX0_hasGate_0 : decode cX0_hasGate 0 = .ok (.iload_n 1, 1) := by decide +kernel
theorem dX0_hasGate_1 : decode cX0_hasGate 1 = .ok (.ifCond .lt 15, 3) := by decide +kernel
theorem dX0_hasGate_4 : decode cX0_hasGate 4 = .ok (.iload_n 1, 1) := by decide +kernel
theorem dX0_hasGate_5 : decode cX0_hasGate 5 = .ok (.aload_n 0, 1) := by decide +kernel
theorem dX0_hasGate_6 : decode cX0_hasGate 6 = .ok (.getfield 29, 3) := by decide +kernel
theorem dX0_hasGate_9 : decode cX0_hasGate 9 = .ok (.if_icmp .ge 7, 3) := by decide +kernel
theorem dX0_hasGate_12 : decode cX0_hasGate 12 = .ok (.iconst 1, 1) := by decide +kernel
theorem dX0_hasGate_13 : decode cX0_hasGate 13 = .ok (.goto 4, 3) := by decide +kernel
theorem dX0_hasGate_16 : decode cX0_hasGate 16 = .ok (.iconst 0, 1) := by decide +kernel
theorem dX0_hasGate_17 : decode cX0_hasGate 17 = .ok (.ireturn, 1) := by decide +kernel
theorem dX0_putGate_0 : decode cX0_putGate 0 = .ok (.aload_n 0, 1) := by decide +kernel
theorem dX0_putGate_1 : decode cX0_putGate 1 = .ok (.getfield 29, 3) := by decide +kernel
theorem dX0_putGate_4 : decode cX0_putGate 4 = .ok (.istore_n 2, 1) := by decide +kernel
theorem dX0_putGate_5 : decode cX0_putGate 5 = .ok (.aload_n 0, 1) := by decide +kernel
theorem dX0_putGate_6 : decode cX0_putGate 6 = .ok (.getfield 9, 3) := by decide +kernel
theorem dX0_putGate_9 : decode cX0_putGate 9 = .ok (.iload_n 2, 1) := by decide +kernel
theorem dX0_putGate_10 : decode cX0_putGate 10 = .ok (.iload_n 1, 1) := by decide +kernel
theorem dX0_putGate_11 : decode cX0_putGate 11 = .ok (.iastore, 1) := by decide +kernel
theorem dX0_putGate_12 : decode cX0_putGate 12 = .ok (.aload_n 0, 1) := by decide +kernel
theorem dX0_putGate_13 : decode cX0_putGate 13 = .ok (.dup, 1) := by decide +kernel
theorem dX0_putGate_14 : decode cX0_putGate 14 = .ok (.getfield 29, 3) := by decide +kernel
theorem dX0_putGate_17 : decode cX0_putGate 17 = .ok (.iconst 1, 1) := by decide +kernel
theorem dX0_putGate_18 : decode cX0_putGate 18 = .ok (.iadd, 1) := by decide +kernel
theorem dX0_putGate_19 : decode cX0_putGate 19 = .ok (.putfield 29, 3) := by decide +kernel
theorem dX0_putGate_22 : decode cX0_putGate 22 = .ok (.iload_n 2, 1) := by decide +kernel
theorem dX0_putGate_23 : decode cX0_putGate 23 = .ok (.ireturn, 1) := by decide +kernel
set_option maxRecDepth 20000 in
theorem ggX0_rankLack_X0_hasGate : GoodIn wsX0_rankLack wsX0_hasGate := goodIn_r _ [10, 11, 12, 13, 14, 15, 16, 17, 18] (by decide +kernel) (by decide +kernel)
set_option maxRecDepth 20000 in
theorem gX0_rankLack_X0_hasGate : GoodIn wsX0_rankLack (wsV RX0 33 RX0 yX0_hasGate wsX0_hasGate) := goodIn_app (goodIn_of _ (by decide +kernel)) ggX0_rankLack_X0_hasGate
theorem dX0_rankLack_0 : decode cX0_rankLack 0 = .ok (.aload_n 0, 1) := by decide +kernel
theorem dX0_rankLack_1 : decode cX0_rankLack 1 = .ok (.iload_n 1, 1) := by decide +kernel
theorem dX0_rankLack_2 : decode cX0_rankLack 2 = .ok (.invokevirtual 33, 3) := by decide +kernel
theorem dX0_rankLack_5 : decode cX0_rankLack 5 = .ok (.ifCond .eq 18, 3) := by decide +kernel
theorem dX0_rankLack_8 : decode cX0_rankLack 8 = .ok (.iconst 0, 1) := by decide +kernel
theorem dX0_rankLack_9 : decode cX0_rankLack 9 = .ok (.aload_n 0, 1) := by decide +kernel
theorem dX0_rankLack_10 : decode cX0_rankLack 10 = .ok (.getfield 9, 3) := by decide +kernel
theorem dX0_rankLack_13 : decode cX0_rankLack 13 = .ok (.iload_n 1, 1) := by decide +kernel
theorem dX0_rankLack_14 : decode cX0_rankLack 14 = .ok (.iaload, 1) := by decide +kernel
theorem dX0_rankLack_15 : decode cX0_rankLack 15 = .ok (.iload_n 2, 1) := by decide +kernel
theorem dX0_rankLack_16 : decode cX0_rankLack 16 = .ok (.isub, 1) := by decide +kernel
theorem dX0_rankLack_17 : decode cX0_rankLack 17 = .ok (.invokestatic 37, 3) := by decide +kernel
theorem dX0_rankLack_20 : decode cX0_rankLack 20 = .ok (.goto 4, 3) := by decide +kernel
theorem dX0_rankLack_23 : decode cX0_rankLack 23 = .ok (.iconst 0, 1) := by decide +kernel
theorem dX0_rankLack_24 : decode cX0_rankLack 24 = .ok (.ireturn, 1) := by decide +kernel
set_option maxRecDepth 20000 in
theorem ggX0_gateHiss_X0_rankLack : GoodIn wsX0_gateHiss wsX0_rankLack := goodIn_r _ [6, 7, 8, 9, 10, 11, 12, 13, 14, 5, 15, 16, 30, 31, 32, 33, 34, 35, 36] (by decide +kernel) (by decide +kernel)
set_option maxRecDepth 20000 in
theorem gX0_gateHiss_X0_rankLack : GoodIn wsX0_gateHiss (wsV RX0 43 RX0 yX0_rankLack wsX0_rankLack) := goodIn_app (goodIn_of _ (by decide +kernel)) ggX0_gateHiss_X0_rankLack
set_option maxRecDepth 20000 in
theorem ggX0_gateHiss_X1_hissThere : GoodIn wsX0_gateHiss wsX1_hissThere := goodIn_r _ [21, 22, 23, 24, 25, 26, 20, 27, 28, 29, 37, 38, 39, 40, 41] (by decide +kernel) (by decide +kernel)
set_option maxRecDepth 20000 in
theorem gX0_gateHiss_X1_hissThere : GoodIn wsX0_gateHiss (wsV RX0 46 RX1 yX1_hissThere wsX1_hissThere) := goodIn_app (goodIn_of _ (by decide +kernel)) ggX0_gateHiss_X1_hissThere
theorem dX0_gateHiss_0 : decode cX0_gateHiss 0 = .ok (.aload_n 0, 1) := by decide +kernel
theorem dX0_gateHiss_1 : decode cX0_gateHiss 1 = .ok (.getfield 18, 3) := by decide +kernel
theorem dX0_gateHiss_4 : decode cX0_gateHiss 4 = .ok (.iload_n 1, 1) := by decide +kernel
theorem dX0_gateHiss_5 : decode cX0_gateHiss 5 = .ok (.aload_n 0, 1) := by decide +kernel
theorem dX0_gateHiss_6 : decode cX0_gateHiss 6 = .ok (.iload_n 1, 1) := by decide +kernel
theorem dX0_gateHiss_7 : decode cX0_gateHiss 7 = .ok (.iload_n 2, 1) := by decide +kernel
theorem dX0_gateHiss_8 : decode cX0_gateHiss 8 = .ok (.invokevirtual 43, 3) := by decide +kernel
theorem dX0_gateHiss_11 : decode cX0_gateHiss 11 = .ok (.invokevirtual 46, 3) := by decide +kernel
theorem dX0_gateHiss_14 : decode cX0_gateHiss 14 = .ok (.ireturn, 1) := by decide +kernel
set_option maxRecDepth 20000 in
theorem ggX0_guestHiss_X0_gateHiss : GoodIn wsX0_guestHiss wsX0_gateHiss := goodIn_r _ [8, 9, 10, 11, 12, 7, 13, 14, 15, 16, 17, 18, 19, 20, 21, 22, 23, 24, 25, 26, 27, 28, 29, 30, 31, 32, 33, 34, 35, 36, 37, 38, 39, 40, 41, 42, 43, 50, 51, 52, 53, 54] (by decide +kernel) (by decide +kernel)
set_option maxRecDepth 20000 in
theorem gX0_guestHiss_X0_gateHiss : GoodIn wsX0_guestHiss (wsV RX0 55 RX0 yX0_gateHiss wsX0_gateHiss) := goodIn_app (goodIn_of _ (by decide +kernel)) ggX0_guestHiss_X0_gateHiss
theorem dX0_guestHiss_0 : decode cX0_guestHiss 0 = .ok (.aload_n 0, 1) := by decide +kernel
theorem dX0_guestHiss_1 : decode cX0_guestHiss 1 = .ok (.aload_n 0, 1) := by decide +kernel
theorem dX0_guestHiss_2 : decode cX0_guestHiss 2 = .ok (.getfield 25, 3) := by decide +kernel
theorem dX0_guestHiss_5 : decode cX0_guestHiss 5 = .ok (.getfield 49, 3) := by decide +kernel
theorem dX0_guestHiss_8 : decode cX0_guestHiss 8 = .ok (.iload_n 1, 1) := by decide +kernel
theorem dX0_guestHiss_9 : decode cX0_guestHiss 9 = .ok (.iaload, 1) := by decide +kernel
theorem dX0_guestHiss_10 : decode cX0_guestHiss 10 = .ok (.aload_n 0, 1) := by decide +kernel
theorem dX0_guestHiss_11 : decode cX0_guestHiss 11 = .ok (.getfield 25, 3) := by decide +kernel
theorem dX0_guestHiss_14 : decode cX0_guestHiss 14 = .ok (.getfield 52, 3) := by decide +kernel
theorem dX0_guestHiss_17 : decode cX0_guestHiss 17 = .ok (.iload_n 1, 1) := by decide +kernel
theorem dX0_guestHiss_18 : decode cX0_guestHiss 18 = .ok (.iaload, 1) := by decide +kernel
theorem dX0_guestHiss_19 : decode cX0_guestHiss 19 = .ok (.invokevirtual 55, 3) := by decide +kernel
theorem dX0_guestHiss_22 : decode cX0_guestHiss 22 = .ok (.ireturn, 1) := by decide +kernel
theorem dX0_isBehindAll_0 : decode cX0_isBehindAll 0 = .ok (.aload_n 0, 1) := by decide +kernel
theorem dX0_isBehindAll_1 : decode cX0_isBehindAll 1 = .ok (.getfield 25, 3) := by decide +kernel
theorem dX0_isBehindAll_4 : decode cX0_isBehindAll 4 = .ok (.getfield 49, 3) := by decide +kernel
theorem dX0_isBehindAll_7 : decode cX0_isBehindAll 7 = .ok (.iload_n 1, 1) := by decide +kernel
theorem dX0_isBehindAll_8 : decode cX0_isBehindAll 8 = .ok (.iaload, 1) := by decide +kernel
theorem dX0_isBehindAll_9 : decode cX0_isBehindAll 9 = .ok (.aload_n 0, 1) := by decide +kernel
theorem dX0_isBehindAll_10 : decode cX0_isBehindAll 10 = .ok (.getfield 29, 3) := by decide +kernel
theorem dX0_isBehindAll_13 : decode cX0_isBehindAll 13 = .ok (.if_icmp .lt 7, 3) := by decide +kernel
theorem dX0_isBehindAll_16 : decode cX0_isBehindAll 16 = .ok (.iconst 1, 1) := by decide +kernel
theorem dX0_isBehindAll_17 : decode cX0_isBehindAll 17 = .ok (.goto 4, 3) := by decide +kernel
theorem dX0_isBehindAll_20 : decode cX0_isBehindAll 20 = .ok (.iconst 0, 1) := by decide +kernel
theorem dX0_isBehindAll_21 : decode cX0_isBehindAll 21 = .ok (.ireturn, 1) := by decide +kernel
set_option maxRecDepth 20000 in
theorem ggX0_countInside_X0_isBehindAll : GoodIn wsX0_countInside wsX0_isBehindAll := goodIn_r _ [7, 1, 8, 9, 10, 11, 12, 13, 14, 15, 16, 17, 18, 19, 20, 21, 22] (by decide +kernel) (by decide +kernel)
set_option maxRecDepth 20000 in
theorem gX0_countInside_X0_isBehindAll : GoodIn wsX0_countInside (wsV RX0 61 RX0 yX0_isBehindAll wsX0_isBehindAll) := goodIn_app (goodIn_of _ (by decide +kernel)) ggX0_countInside_X0_isBehindAll
theorem dX0_countInside_0 : decode cX0_countInside 0 = .ok (.iconst 0, 1) := by decide +kernel
theorem dX0_countInside_1 : decode cX0_countInside 1 = .ok (.istore_n 1, 1) := by decide +kernel
theorem dX0_countInside_2 : decode cX0_countInside 2 = .ok (.iconst 0, 1) := by decide +kernel
theorem dX0_countInside_3 : decode cX0_countInside 3 = .ok (.istore_n 2, 1) := by decide +kernel
theorem dX0_countInside_4 : decode cX0_countInside 4 = .ok (.iload_n 2, 1) := by decide +kernel
theorem dX0_countInside_5 : decode cX0_countInside 5 = .ok (.aload_n 0, 1) := by decide +kernel
theorem dX0_countInside_6 : decode cX0_countInside 6 = .ok (.getfield 25, 3) := by decide +kernel
theorem dX0_countInside_9 : decode cX0_countInside 9 = .ok (.getfield 58, 3) := by decide +kernel
theorem dX0_countInside_12 : decode cX0_countInside 12 = .ok (.if_icmp .ge 20, 3) := by decide +kernel
theorem dX0_countInside_15 : decode cX0_countInside 15 = .ok (.aload_n 0, 1) := by decide +kernel
theorem dX0_countInside_16 : decode cX0_countInside 16 = .ok (.iload_n 2, 1) := by decide +kernel
theorem dX0_countInside_17 : decode cX0_countInside 17 = .ok (.invokevirtual 61, 3) := by decide +kernel
theorem dX0_countInside_20 : decode cX0_countInside 20 = .ok (.ifCond .eq 6, 3) := by decide +kernel
theorem dX0_countInside_23 : decode cX0_countInside 23 = .ok (.iinc 1 1, 3) := by decide +kernel
theorem dX0_countInside_26 : decode cX0_countInside 26 = .ok (.iinc 2 1, 3) := by decide +kernel
theorem dX0_countInside_29 : decode cX0_countInside 29 = .ok (.goto (-25), 3) := by decide +kernel
theorem dX0_countInside_32 : decode cX0_countInside 32 = .ok (.iload_n 1, 1) := by decide +kernel
theorem dX0_countInside_33 : decode cX0_countInside 33 = .ok (.ireturn, 1) := by decide +kernel
set_option maxRecDepth 20000 in
theorem ggX0_payGoose_X1_feed : GoodIn wsX0_payGoose wsX1_feed := goodIn_r _ [9, 10, 11, 12, 13, 14, 15, 16, 30, 31, 32, 33, 34] (by decide +kernel) (by decide +kernel)
set_option maxRecDepth 20000 in
theorem gX0_payGoose_X1_feed : GoodIn wsX0_payGoose (wsV RX0 67 RX1 yX1_feed wsX1_feed) := goodIn_app (goodIn_of _ (by decide +kernel)) ggX0_payGoose_X1_feed
theorem dX0_payGoose_0 : decode cX0_payGoose 0 = .ok (.aload_n 0, 1) := by decide +kernel
theorem dX0_payGoose_1 : decode cX0_payGoose 1 = .ok (.getfield 25, 3) := by decide +kernel
theorem dX0_payGoose_4 : decode cX0_payGoose 4 = .ok (.getfield 64, 3) := by decide +kernel
theorem dX0_payGoose_7 : decode cX0_payGoose 7 = .ok (.iload_n 1, 1) := by decide +kernel
theorem dX0_payGoose_8 : decode cX0_payGoose 8 = .ok (.dup2, 1) := by decide +kernel
theorem dX0_payGoose_9 : decode cX0_payGoose 9 = .ok (.iaload, 1) := by decide +kernel
theorem dX0_payGoose_10 : decode cX0_payGoose 10 = .ok (.iconst 1, 1) := by decide +kernel
theorem dX0_payGoose_11 : decode cX0_payGoose 11 = .ok (.isub, 1) := by decide +kernel
theorem dX0_payGoose_12 : decode cX0_payGoose 12 = .ok (.iastore, 1) := by decide +kernel
theorem dX0_payGoose_13 : decode cX0_payGoose 13 = .ok (.aload_n 0, 1) := by decide +kernel
theorem dX0_payGoose_14 : decode cX0_payGoose 14 = .ok (.getfield 18, 3) := by decide +kernel
theorem dX0_payGoose_17 : decode cX0_payGoose 17 = .ok (.iload_n 2, 1) := by decide +kernel
theorem dX0_payGoose_18 : decode cX0_payGoose 18 = .ok (.invokevirtual 67, 3) := by decide +kernel
theorem dX0_payGoose_21 : decode cX0_payGoose 21 = .ok (.aload_n 0, 1) := by decide +kernel
theorem dX0_payGoose_22 : decode cX0_payGoose 22 = .ok (.dup, 1) := by decide +kernel
theorem dX0_payGoose_23 : decode cX0_payGoose 23 = .ok (.getfield 71, 3) := by decide +kernel
theorem dX0_payGoose_26 : decode cX0_payGoose 26 = .ok (.iconst 1, 1) := by decide +kernel
theorem dX0_payGoose_27 : decode cX0_payGoose 27 = .ok (.iadd, 1) := by decide +kernel
theorem dX0_payGoose_28 : decode cX0_payGoose 28 = .ok (.putfield 71, 3) := by decide +kernel
theorem dX0_payGoose_31 : decode cX0_payGoose 31 = .ok (.return_, 1) := by decide +kernel
set_option maxRecDepth 20000 in
theorem ggX0_runBeats_X0_runBeat : GoodIn wsX0_runBeats wsX0_runBeat := goodIn_r _ [5, 6, 7, 8, 9, 10, 11, 12, 13, 14, 15, 16, 17, 18, 19, 4, 20, 21, 22, 23, 24, 25, 26, 27, 28, 29, 30, 31, 32, 33, 34, 35, 36, 37, 38, 39, 40, 41, 42, 43, 44, 45, 46, 47, 48, 49, 50, 51, 52, 53, 54, 55, 56, 57, 58, 59, 60, 61, 62, 63, 64, 65, 66, 67, 68, 69, 70, 71, 72, 73, 74, 75, 76, 77, 78, 79, 80, 81, 82, 83, 84, 85, 86, 87, 88, 89, 90, 91, 92, 93, 94, 95, 96, 97, 98, 99, 100, 101, 102, 103, 104, 105, 106, 107, 108, 109, 110, 111, 112, 113, 114] (by decide +kernel) (by decide +kernel)
set_option maxRecDepth 20000 in
theorem gX0_runBeats_X0_runBeat : GoodIn wsX0_runBeats (wsV RX0 89 RX0 yX0_runBeat wsX0_runBeat) := goodIn_app (goodIn_of _ (by decide +kernel)) ggX0_runBeats_X0_runBeat
theorem dX0_runBeats_0 : decode cX0_runBeats 0 = .ok (.iconst 0, 1) := by decide +kernel
theorem dX0_runBeats_1 : decode cX0_runBeats 1 = .ok (.istore_n 2, 1) := by decide +kernel
theorem dX0_runBeats_2 : decode cX0_runBeats 2 = .ok (.iload_n 2, 1) := by decide +kernel
theorem dX0_runBeats_3 : decode cX0_runBeats 3 = .ok (.iload_n 1, 1) := by decide +kernel
theorem dX0_runBeats_4 : decode cX0_runBeats 4 = .ok (.if_icmp .ge 13, 3) := by decide +kernel
theorem dX0_runBeats_7 : decode cX0_runBeats 7 = .ok (.aload_n 0, 1) := by decide +kernel
theorem dX0_runBeats_8 : decode cX0_runBeats 8 = .ok (.invokevirtual 89, 3) := by decide +kernel
theorem dX0_runBeats_11 : decode cX0_runBeats 11 = .ok (.iinc 2 1, 3) := by decide +kernel
theorem dX0_runBeats_14 : decode cX0_runBeats 14 = .ok (.goto (-12), 3) := by decide +kernel
theorem dX0_runBeats_17 : decode cX0_runBeats 17 = .ok (.return_, 1) := by decide +kernel
set_option maxRecDepth 20000 in
theorem ggX0_runBeat_X1_wakeByABeat : GoodIn wsX0_runBeat wsX1_wakeByABeat := goodIn_r _ [9, 10, 11, 106, 107, 108, 109, 110] (by decide +kernel) (by decide +kernel)
set_option maxRecDepth 20000 in
theorem gX0_runBeat_X1_wakeByABeat : GoodIn wsX0_runBeat (wsV RX0 92 RX1 yX1_wakeByABeat wsX1_wakeByABeat) := goodIn_app (goodIn_of _ (by decide +kernel)) ggX0_runBeat_X1_wakeByABeat
set_option maxRecDepth 20000 in
theorem ggX0_runBeat_X0_isBehindAll : GoodIn wsX0_runBeat wsX0_isBehindAll := goodIn_r _ [16, 2, 17, 18, 93, 94, 95, 96, 97, 98, 99, 100, 101, 102, 103, 104, 105] (by decide +kernel) (by decide +kernel)
set_option maxRecDepth 20000 in
theorem gX0_runBeat_X0_isBehindAll : GoodIn wsX0_runBeat (wsV RX0 61 RX0 yX0_isBehindAll wsX0_isBehindAll) := goodIn_app (goodIn_of _ (by decide +kernel)) ggX0_runBeat_X0_isBehindAll
set_option maxRecDepth 20000 in
theorem ggX0_runBeat_X0_moveGuest : GoodIn wsX0_runBeat wsX0_moveGuest := goodIn_r _ [22, 2, 23, 17, 24, 25, 1, 26, 27, 28, 29, 30, 15, 31, 32, 33, 34, 35, 36, 37, 38, 39, 40, 41, 42, 43, 44, 18, 45, 46, 47, 8, 48, 10, 49, 50, 51, 52, 53, 54, 11, 55, 56, 57, 58, 59, 60, 61, 62, 63, 64, 65, 66, 67, 68, 69, 70, 71, 72, 73, 74, 75, 76, 77, 78, 79, 80, 81, 82, 83, 84, 85, 86, 87, 88, 89, 90, 91, 92, 93, 94, 95, 96, 97, 98, 99, 100, 101, 102, 103, 104, 105, 106, 107, 108, 109, 110] (by decide +kernel) (by decide +kernel)
set_option maxRecDepth 20000 in
theorem gX0_runBeat_X0_moveGuest : GoodIn wsX0_runBeat (wsV RX0 95 RX0 yX0_moveGuest wsX0_moveGuest) := goodIn_app (goodIn_of _ (by decide +kernel)) ggX0_runBeat_X0_moveGuest
theorem dX0_runBeat_0 : decode cX0_runBeat 0 = .ok (.aload_n 0, 1) := by decide +kernel
theorem dX0_runBeat_1 : decode cX0_runBeat 1 = .ok (.getfield 18, 3) := by decide +kernel
theorem dX0_runBeat_4 : decode cX0_runBeat 4 = .ok (.invokevirtual 92, 3) := by decide +kernel
theorem dX0_runBeat_7 : decode cX0_runBeat 7 = .ok (.iconst 0, 1) := by decide +kernel
theorem dX0_runBeat_8 : decode cX0_runBeat 8 = .ok (.istore_n 1, 1) := by decide +kernel
theorem dX0_runBeat_9 : decode cX0_runBeat 9 = .ok (.iload_n 1, 1) := by decide +kernel
theorem dX0_runBeat_10 : decode cX0_runBeat 10 = .ok (.aload_n 0, 1) := by decide +kernel
theorem dX0_runBeat_11 : decode cX0_runBeat 11 = .ok (.getfield 25, 3) := by decide +kernel
theorem dX0_runBeat_14 : decode cX0_runBeat 14 = .ok (.getfield 58, 3) := by decide +kernel
theorem dX0_runBeat_17 : decode cX0_runBeat 17 = .ok (.if_icmp .ge 22, 3) := by decide +kernel
theorem dX0_runBeat_20 : decode cX0_runBeat 20 = .ok (.aload_n 0, 1) := by decide +kernel
theorem dX0_runBeat_21 : decode cX0_runBeat 21 = .ok (.iload_n 1, 1) := by decide +kernel
theorem dX0_runBeat_22 : decode cX0_runBeat 22 = .ok (.invokevirtual 61, 3) := by decide +kernel
theorem dX0_runBeat_25 : decode cX0_runBeat 25 = .ok (.ifCond .ne 8, 3) := by decide +kernel
theorem dX0_runBeat_28 : decode cX0_runBeat 28 = .ok (.aload_n 0, 1) := by decide +kernel
theorem dX0_runBeat_29 : decode cX0_runBeat 29 = .ok (.iload_n 1, 1) := by decide +kernel
theorem dX0_runBeat_30 : decode cX0_runBeat 30 = .ok (.invokevirtual 95, 3) := by decide +kernel
theorem dX0_runBeat_33 : decode cX0_runBeat 33 = .ok (.iinc 1 1, 3) := by decide +kernel
theorem dX0_runBeat_36 : decode cX0_runBeat 36 = .ok (.goto (-27), 3) := by decide +kernel
theorem dX0_runBeat_39 : decode cX0_runBeat 39 = .ok (.aload_n 0, 1) := by decide +kernel
theorem dX0_runBeat_40 : decode cX0_runBeat 40 = .ok (.dup, 1) := by decide +kernel
theorem dX0_runBeat_41 : decode cX0_runBeat 41 = .ok (.getfield 98, 3) := by decide +kernel
theorem dX0_runBeat_44 : decode cX0_runBeat 44 = .ok (.iconst 1, 1) := by decide +kernel
theorem dX0_runBeat_45 : decode cX0_runBeat 45 = .ok (.iadd, 1) := by decide +kernel
theorem dX0_runBeat_46 : decode cX0_runBeat 46 = .ok (.putfield 98, 3) := by decide +kernel
theorem dX0_runBeat_49 : decode cX0_runBeat 49 = .ok (.return_, 1) := by decide +kernel
set_option maxRecDepth 20000 in
theorem ggX0_moveGuest_X0_gateHiss : GoodIn wsX0_moveGuest wsX0_gateHiss := goodIn_r _ [13, 6, 14, 15, 16, 12, 17, 18, 19, 20, 21, 22, 23, 24, 25, 26, 27, 28, 29, 30, 31, 32, 33, 34, 35, 36, 37, 38, 39, 40, 79, 80, 81, 82, 83, 84, 85, 92, 93, 94, 95, 96] (by decide +kernel) (by decide +kernel)
set_option maxRecDepth 20000 in
theorem gX0_moveGuest_X0_gateHiss : GoodIn wsX0_moveGuest (wsV RX0 55 RX0 yX0_gateHiss wsX0_gateHiss) := goodIn_app (goodIn_of _ (by decide +kernel)) ggX0_moveGuest_X0_gateHiss
set_option maxRecDepth 20000 in
theorem ggX0_moveGuest_X1_enrage : GoodIn wsX0_moveGuest wsX1_enrage := goodIn_r _ [44, 33, 34, 45, 46, 21, 47, 35, 36, 37, 31, 38, 39, 40, 92, 93, 94, 95, 96] (by decide +kernel) (by decide +kernel)
set_option maxRecDepth 20000 in
theorem gX0_moveGuest_X1_enrage : GoodIn wsX0_moveGuest (wsV RX0 104 RX1 yX1_enrage wsX1_enrage) := goodIn_app (goodIn_of _ (by decide +kernel)) ggX0_moveGuest_X1_enrage
set_option maxRecDepth 20000 in
theorem ggX0_moveGuest_X1_fiercestAwake : GoodIn wsX0_moveGuest wsX1_fiercestAwake := goodIn_r _ [51, 33, 34, 35, 36, 37, 31, 38, 39, 40, 92, 93, 94, 95, 96] (by decide +kernel) (by decide +kernel)
set_option maxRecDepth 20000 in
theorem gX0_moveGuest_X1_fiercestAwake : GoodIn wsX0_moveGuest (wsV RX0 107 RX1 yX1_fiercestAwake wsX1_fiercestAwake) := goodIn_app (goodIn_of _ (by decide +kernel)) ggX0_moveGuest_X1_fiercestAwake
set_option maxRecDepth 20000 in
theorem ggX0_moveGuest_X1_hasGoose : GoodIn wsX0_moveGuest wsX1_hasGoose := goodIn_r _ [55, 33, 92, 93, 94, 95, 96] (by decide +kernel) (by decide +kernel)
set_option maxRecDepth 20000 in
theorem gX0_moveGuest_X1_hasGoose : GoodIn wsX0_moveGuest (wsV RX0 110 RX1 yX1_hasGoose wsX1_hasGoose) := goodIn_app (goodIn_of _ (by decide +kernel)) ggX0_moveGuest_X1_hasGoose
set_option maxRecDepth 20000 in
theorem ggX0_moveGuest_X0_payGoose : GoodIn wsX0_moveGuest wsX0_payGoose := goodIn_r _ [59, 1, 7, 6, 60, 61, 62, 63, 31, 64, 65, 40, 34, 66, 20, 21, 22, 79, 80, 81, 82, 83, 84, 85, 86, 87, 88, 89, 90, 91, 92, 93, 94, 95, 96] (by decide +kernel) (by decide +kernel)
set_option maxRecDepth 20000 in
theorem gX0_moveGuest_X0_payGoose : GoodIn wsX0_moveGuest (wsV RX0 113 RX0 yX0_payGoose wsX0_payGoose) := goodIn_app (goodIn_of _ (by decide +kernel)) ggX0_moveGuest_X0_payGoose
set_option maxRecDepth 20000 in
theorem ggX0_moveGuest_X3_gradeOfHiss : GoodIn wsX0_moveGuest wsX3_gradeOfHiss := goodIn_r _ [69] (by decide +kernel) (by decide +kernel)
set_option maxRecDepth 20000 in
theorem gX0_moveGuest_X3_gradeOfHiss_n117 : GoodIn wsX0_moveGuest (wsX3_gradeOfHiss) := ggX0_moveGuest_X3_gradeOfHiss
set_option maxRecDepth 20000 in
theorem ggX0_moveGuest_X2_fallBack : GoodIn wsX0_moveGuest wsX2_fallBack := goodIn_r _ [74, 75, 76, 77, 46, 21, 47, 78, 86, 87, 88, 89, 90, 91] (by decide +kernel) (by decide +kernel)
set_option maxRecDepth 20000 in
theorem gX0_moveGuest_X2_fallBack : GoodIn wsX0_moveGuest (wsV RX0 120 RX2 yX2_fallBack wsX2_fallBack) := goodIn_app (goodIn_of _ (by decide +kernel)) ggX0_moveGuest_X2_fallBack
theorem dX0_moveGuest_0 : decode cX0_moveGuest 0 = .ok (.aload_n 0, 1) := by decide +kernel
theorem dX0_moveGuest_1 : decode cX0_moveGuest 1 = .ok (.getfield 25, 3) := by decide +kernel
theorem dX0_moveGuest_4 : decode cX0_moveGuest 4 = .ok (.getfield 101, 3) := by decide +kernel
theorem dX0_moveGuest_7 : decode cX0_moveGuest 7 = .ok (.iload_n 1, 1) := by decide +kernel
theorem dX0_moveGuest_8 : decode cX0_moveGuest 8 = .ok (.iaload, 1) := by decide +kernel
theorem dX0_moveGuest_9 : decode cX0_moveGuest 9 = .ok (.ifCond .le 17, 3) := by decide +kernel
theorem dX0_moveGuest_12 : decode cX0_moveGuest 12 = .ok (.aload_n 0, 1) := by decide +kernel
theorem dX0_moveGuest_13 : decode cX0_moveGuest 13 = .ok (.getfield 25, 3) := by decide +kernel
theorem dX0_moveGuest_16 : decode cX0_moveGuest 16 = .ok (.getfield 101, 3) := by decide +kernel
theorem dX0_moveGuest_19 : decode cX0_moveGuest 19 = .ok (.iload_n 1, 1) := by decide +kernel
theorem dX0_moveGuest_20 : decode cX0_moveGuest 20 = .ok (.dup2, 1) := by decide +kernel
theorem dX0_moveGuest_21 : decode cX0_moveGuest 21 = .ok (.iaload, 1) := by decide +kernel
theorem dX0_moveGuest_22 : decode cX0_moveGuest 22 = .ok (.iconst 1, 1) := by decide +kernel
theorem dX0_moveGuest_23 : decode cX0_moveGuest 23 = .ok (.isub, 1) := by decide +kernel
theorem dX0_moveGuest_24 : decode cX0_moveGuest 24 = .ok (.iastore, 1) := by decide +kernel
theorem dX0_moveGuest_25 : decode cX0_moveGuest 25 = .ok (.return_, 1) := by decide +kernel
theorem dX0_moveGuest_26 : decode cX0_moveGuest 26 = .ok (.aload_n 0, 1) := by decide +kernel
theorem dX0_moveGuest_27 : decode cX0_moveGuest 27 = .ok (.getfield 25, 3) := by decide +kernel
theorem dX0_moveGuest_30 : decode cX0_moveGuest 30 = .ok (.getfield 49, 3) := by decide +kernel
theorem dX0_moveGuest_33 : decode cX0_moveGuest 33 = .ok (.iload_n 1, 1) := by decide +kernel
theorem dX0_moveGuest_34 : decode cX0_moveGuest 34 = .ok (.iaload, 1) := by decide +kernel
theorem dX0_moveGuest_35 : decode cX0_moveGuest 35 = .ok (.istore_n 2, 1) := by decide +kernel
theorem dX0_moveGuest_36 : decode cX0_moveGuest 36 = .ok (.aload_n 0, 1) := by decide +kernel
theorem dX0_moveGuest_37 : decode cX0_moveGuest 37 = .ok (.iload_n 2, 1) := by decide +kernel
theorem dX0_moveGuest_38 : decode cX0_moveGuest 38 = .ok (.aload_n 0, 1) := by decide +kernel
theorem dX0_moveGuest_39 : decode cX0_moveGuest 39 = .ok (.getfield 25, 3) := by decide +kernel
theorem dX0_moveGuest_42 : decode cX0_moveGuest 42 = .ok (.getfield 52, 3) := by decide +kernel
theorem dX0_moveGuest_45 : decode cX0_moveGuest 45 = .ok (.iload_n 1, 1) := by decide +kernel
theorem dX0_moveGuest_46 : decode cX0_moveGuest 46 = .ok (.iaload, 1) := by decide +kernel
theorem dX0_moveGuest_47 : decode cX0_moveGuest 47 = .ok (.invokevirtual 55, 3) := by decide +kernel
theorem dX0_moveGuest_50 : decode cX0_moveGuest 50 = .ok (.istore_n 3, 1) := by decide +kernel
theorem dX0_moveGuest_51 : decode cX0_moveGuest 51 = .ok (.iload_n 3, 1) := by decide +kernel
theorem dX0_moveGuest_52 : decode cX0_moveGuest 52 = .ok (.aload_n 0, 1) := by decide +kernel
theorem dX0_moveGuest_53 : decode cX0_moveGuest 53 = .ok (.getfield 25, 3) := by decide +kernel
theorem dX0_moveGuest_56 : decode cX0_moveGuest 56 = .ok (.getfield 79, 3) := by decide +kernel
theorem dX0_moveGuest_59 : decode cX0_moveGuest 59 = .ok (.iload_n 1, 1) := by decide +kernel
theorem dX0_moveGuest_60 : decode cX0_moveGuest 60 = .ok (.iaload, 1) := by decide +kernel
theorem dX0_moveGuest_61 : decode cX0_moveGuest 61 = .ok (.if_icmp .gt 24, 3) := by decide +kernel
theorem dX0_moveGuest_64 : decode cX0_moveGuest 64 = .ok (.aload_n 0, 1) := by decide +kernel
theorem dX0_moveGuest_65 : decode cX0_moveGuest 65 = .ok (.getfield 25, 3) := by decide +kernel
theorem dX0_moveGuest_68 : decode cX0_moveGuest 68 = .ok (.getfield 49, 3) := by decide +kernel
theorem dX0_moveGuest_71 : decode cX0_moveGuest 71 = .ok (.iload_n 1, 1) := by decide +kernel
theorem dX0_moveGuest_72 : decode cX0_moveGuest 72 = .ok (.iload_n 2, 1) := by decide +kernel
theorem dX0_moveGuest_73 : decode cX0_moveGuest 73 = .ok (.iconst 1, 1) := by decide +kernel
theorem dX0_moveGuest_74 : decode cX0_moveGuest 74 = .ok (.iadd, 1) := by decide +kernel
theorem dX0_moveGuest_75 : decode cX0_moveGuest 75 = .ok (.iastore, 1) := by decide +kernel
theorem dX0_moveGuest_76 : decode cX0_moveGuest 76 = .ok (.aload_n 0, 1) := by decide +kernel
theorem dX0_moveGuest_77 : decode cX0_moveGuest 77 = .ok (.getfield 18, 3) := by decide +kernel
theorem dX0_moveGuest_80 : decode cX0_moveGuest 80 = .ok (.iload_n 2, 1) := by decide +kernel
theorem dX0_moveGuest_81 : decode cX0_moveGuest 81 = .ok (.invokevirtual 104, 3) := by decide +kernel
theorem dX0_moveGuest_84 : decode cX0_moveGuest 84 = .ok (.return_, 1) := by decide +kernel
theorem dX0_moveGuest_85 : decode cX0_moveGuest 85 = .ok (.aload_n 0, 1) := by decide +kernel
theorem dX0_moveGuest_86 : decode cX0_moveGuest 86 = .ok (.getfield 18, 3) := by decide +kernel
theorem dX0_moveGuest_89 : decode cX0_moveGuest 89 = .ok (.iload_n 2, 1) := by decide +kernel
theorem dX0_moveGuest_90 : decode cX0_moveGuest 90 = .ok (.invokevirtual 107, 3) := by decide +kernel
theorem dX0_moveGuest_93 : decode cX0_moveGuest 93 = .ok (.istore 4, 2) := by decide +kernel
theorem dX0_moveGuest_95 : decode cX0_moveGuest 95 = .ok (.aload_n 0, 1) := by decide +kernel
theorem dX0_moveGuest_96 : decode cX0_moveGuest 96 = .ok (.getfield 25, 3) := by decide +kernel
theorem dX0_moveGuest_99 : decode cX0_moveGuest 99 = .ok (.getfield 64, 3) := by decide +kernel
theorem dX0_moveGuest_102 : decode cX0_moveGuest 102 = .ok (.iload_n 1, 1) := by decide +kernel
theorem dX0_moveGuest_103 : decode cX0_moveGuest 103 = .ok (.iaload, 1) := by decide +kernel
theorem dX0_moveGuest_104 : decode cX0_moveGuest 104 = .ok (.ifCond .le 25, 3) := by decide +kernel
theorem dX0_moveGuest_107 : decode cX0_moveGuest 107 = .ok (.aload_n 0, 1) := by decide +kernel
theorem dX0_moveGuest_108 : decode cX0_moveGuest 108 = .ok (.getfield 18, 3) := by decide +kernel
theorem dX0_moveGuest_111 : decode cX0_moveGuest 111 = .ok (.iload 4, 2) := by decide +kernel
theorem dX0_moveGuest_113 : decode cX0_moveGuest 113 = .ok (.invokevirtual 110, 3) := by decide +kernel
theorem dX0_moveGuest_116 : decode cX0_moveGuest 116 = .ok (.ifCond .eq 13, 3) := by decide +kernel
theorem dX0_moveGuest_119 : decode cX0_moveGuest 119 = .ok (.aload_n 0, 1) := by decide +kernel
theorem dX0_moveGuest_120 : decode cX0_moveGuest 120 = .ok (.iload_n 1, 1) := by decide +kernel
theorem dX0_moveGuest_121 : decode cX0_moveGuest 121 = .ok (.iload 4, 2) := by decide +kernel
theorem dX0_moveGuest_123 : decode cX0_moveGuest 123 = .ok (.invokevirtual 113, 3) := by decide +kernel
theorem dX0_moveGuest_126 : decode cX0_moveGuest 126 = .ok (.goto 25, 3) := by decide +kernel
theorem dX0_moveGuest_129 : decode cX0_moveGuest 129 = .ok (.aload_n 0, 1) := by decide +kernel
theorem dX0_moveGuest_130 : decode cX0_moveGuest 130 = .ok (.getfield 25, 3) := by decide +kernel
theorem dX0_moveGuest_133 : decode cX0_moveGuest 133 = .ok (.iload_n 1, 1) := by decide +kernel
theorem dX0_moveGuest_134 : decode cX0_moveGuest 134 = .ok (.iload_n 3, 1) := by decide +kernel
theorem dX0_moveGuest_135 : decode cX0_moveGuest 135 = .ok (.invokestatic 117, 3) := by decide +kernel
theorem dX0_moveGuest_138 : decode cX0_moveGuest 138 = .ok (.invokevirtual 120, 3) := by decide +kernel
theorem dX0_moveGuest_141 : decode cX0_moveGuest 141 = .ok (.aload_n 0, 1) := by decide +kernel
theorem dX0_moveGuest_142 : decode cX0_moveGuest 142 = .ok (.dup, 1) := by decide +kernel
theorem dX0_moveGuest_143 : decode cX0_moveGuest 143 = .ok (.getfield 123, 3) := by decide +kernel
theorem dX0_moveGuest_146 : decode cX0_moveGuest 146 = .ok (.iconst 1, 1) := by decide +kernel
theorem dX0_moveGuest_147 : decode cX0_moveGuest 147 = .ok (.iadd, 1) := by decide +kernel
theorem dX0_moveGuest_148 : decode cX0_moveGuest 148 = .ok (.putfield 123, 3) := by decide +kernel
theorem dX0_moveGuest_151 : decode cX0_moveGuest 151 = .ok (.return_, 1) := by decide +kernel
theorem dX1_init_0 : decode cX1_init 0 = .ok (.aload_n 0, 1) := by decide +kernel
theorem dX1_init_1 : decode cX1_init 1 = .ok (.invokespecial 3, 3) := by decide +kernel
theorem dX1_init_4 : decode cX1_init 4 = .ok (.aload_n 0, 1) := by decide +kernel
theorem dX1_init_5 : decode cX1_init 5 = .ok (.bipush 8, 2) := by decide +kernel
theorem dX1_init_7 : decode cX1_init 7 = .ok (.newarray .int, 2) := by decide +kernel
theorem dX1_init_9 : decode cX1_init 9 = .ok (.putfield 9, 3) := by decide +kernel
theorem dX1_init_12 : decode cX1_init 12 = .ok (.aload_n 0, 1) := by decide +kernel
theorem dX1_init_13 : decode cX1_init 13 = .ok (.bipush 8, 2) := by decide +kernel
theorem dX1_init_15 : decode cX1_init 15 = .ok (.newarray .int, 2) := by decide +kernel
theorem dX1_init_17 : decode cX1_init 17 = .ok (.putfield 15, 3) := by decide +kernel
theorem dX1_init_20 : decode cX1_init 20 = .ok (.aload_n 0, 1) := by decide +kernel
theorem dX1_init_21 : decode cX1_init 21 = .ok (.bipush 8, 2) := by decide +kernel
theorem dX1_init_23 : decode cX1_init 23 = .ok (.newarray .int, 2) := by decide +kernel
theorem dX1_init_25 : decode cX1_init 25 = .ok (.putfield 18, 3) := by decide +kernel
theorem dX1_init_28 : decode cX1_init 28 = .ok (.aload_n 0, 1) := by decide +kernel
theorem dX1_init_29 : decode cX1_init 29 = .ok (.bipush 8, 2) := by decide +kernel
theorem dX1_init_31 : decode cX1_init 31 = .ok (.newarray .int, 2) := by decide +kernel
theorem dX1_init_33 : decode cX1_init 33 = .ok (.putfield 21, 3) := by decide +kernel
theorem dX1_init_36 : decode cX1_init 36 = .ok (.return_, 1) := by decide +kernel
theorem dX1_hasGoose_0 : decode cX1_hasGoose 0 = .ok (.iload_n 1, 1) := by decide +kernel
theorem dX1_hasGoose_1 : decode cX1_hasGoose 1 = .ok (.ifCond .lt 15, 3) := by decide +kernel
theorem dX1_hasGoose_4 : decode cX1_hasGoose 4 = .ok (.iload_n 1, 1) := by decide +kernel
theorem dX1_hasGoose_5 : decode cX1_hasGoose 5 = .ok (.aload_n 0, 1) := by decide +kernel
theorem dX1_hasGoose_6 : decode cX1_hasGoose 6 = .ok (.getfield 24, 3) := by decide +kernel
theorem dX1_hasGoose_9 : decode cX1_hasGoose 9 = .ok (.if_icmp .ge 7, 3) := by decide +kernel
theorem dX1_hasGoose_12 : decode cX1_hasGoose 12 = .ok (.iconst 1, 1) := by decide +kernel
theorem dX1_hasGoose_13 : decode cX1_hasGoose 13 = .ok (.goto 4, 3) := by decide +kernel
theorem dX1_hasGoose_16 : decode cX1_hasGoose 16 = .ok (.iconst 0, 1) := by decide +kernel
theorem dX1_hasGoose_17 : decode cX1_hasGoose 17 = .ok (.ireturn, 1) := by decide +kernel
theorem dX1_putGoose_0 : decode cX1_putGoose 0 = .ok (.aload_n 0, 1) := by decide +kernel
theorem dX1_putGoose_1 : decode cX1_putGoose 1 = .ok (.getfield 24, 3) := by decide +kernel
theorem dX1_putGoose_4 : decode cX1_putGoose 4 = .ok (.istore_n 3, 1) := by decide +kernel
theorem dX1_putGoose_5 : decode cX1_putGoose 5 = .ok (.aload_n 0, 1) := by decide +kernel
theorem dX1_putGoose_6 : decode cX1_putGoose 6 = .ok (.getfield 9, 3) := by decide +kernel
theorem dX1_putGoose_9 : decode cX1_putGoose 9 = .ok (.iload_n 3, 1) := by decide +kernel
theorem dX1_putGoose_10 : decode cX1_putGoose 10 = .ok (.iload_n 1, 1) := by decide +kernel
theorem dX1_putGoose_11 : decode cX1_putGoose 11 = .ok (.iastore, 1) := by decide +kernel
theorem dX1_putGoose_12 : decode cX1_putGoose 12 = .ok (.aload_n 0, 1) := by decide +kernel
theorem dX1_putGoose_13 : decode cX1_putGoose 13 = .ok (.getfield 15, 3) := by decide +kernel
theorem dX1_putGoose_16 : decode cX1_putGoose 16 = .ok (.iload_n 3, 1) := by decide +kernel
theorem dX1_putGoose_17 : decode cX1_putGoose 17 = .ok (.iload_n 2, 1) := by decide +kernel
theorem dX1_putGoose_18 : decode cX1_putGoose 18 = .ok (.iastore, 1) := by decide +kernel
theorem dX1_putGoose_19 : decode cX1_putGoose 19 = .ok (.aload_n 0, 1) := by decide +kernel
theorem dX1_putGoose_20 : decode cX1_putGoose 20 = .ok (.dup, 1) := by decide +kernel
theorem dX1_putGoose_21 : decode cX1_putGoose 21 = .ok (.getfield 24, 3) := by decide +kernel
theorem dX1_putGoose_24 : decode cX1_putGoose 24 = .ok (.iconst 1, 1) := by decide +kernel
theorem dX1_putGoose_25 : decode cX1_putGoose 25 = .ok (.iadd, 1) := by decide +kernel
theorem dX1_putGoose_26 : decode cX1_putGoose 26 = .ok (.putfield 24, 3) := by decide +kernel
theorem dX1_putGoose_29 : decode cX1_putGoose 29 = .ok (.iload_n 3, 1) := by decide +kernel
theorem dX1_putGoose_30 : decode cX1_putGoose 30 = .ok (.ireturn, 1) := by decide +kernel
theorem dX1_isAwakeThere_0 : decode cX1_isAwakeThere 0 = .ok (.aload_n 0, 1) := by decide +kernel
theorem dX1_isAwakeThere_1 : decode cX1_isAwakeThere 1 = .ok (.getfield 9, 3) := by decide +kernel
theorem dX1_isAwakeThere_4 : decode cX1_isAwakeThere 4 = .ok (.iload_n 1, 1) := by decide +kernel
theorem dX1_isAwakeThere_5 : decode cX1_isAwakeThere 5 = .ok (.iaload, 1) := by decide +kernel
theorem dX1_isAwakeThere_6 : decode cX1_isAwakeThere 6 = .ok (.iload_n 2, 1) := by decide +kernel
theorem dX1_isAwakeThere_7 : decode cX1_isAwakeThere 7 = .ok (.if_icmp .ne 16, 3) := by decide +kernel
theorem dX1_isAwakeThere_10 : decode cX1_isAwakeThere 10 = .ok (.aload_n 0, 1) := by decide +kernel
theorem dX1_isAwakeThere_11 : decode cX1_isAwakeThere 11 = .ok (.getfield 18, 3) := by decide +kernel
theorem dX1_isAwakeThere_14 : decode cX1_isAwakeThere 14 = .ok (.iload_n 1, 1) := by decide +kernel
theorem dX1_isAwakeThere_15 : decode cX1_isAwakeThere 15 = .ok (.iaload, 1) := by decide +kernel
theorem dX1_isAwakeThere_16 : decode cX1_isAwakeThere 16 = .ok (.ifCond .ne 7, 3) := by decide +kernel
theorem dX1_isAwakeThere_19 : decode cX1_isAwakeThere 19 = .ok (.iconst 1, 1) := by decide +kernel
theorem dX1_isAwakeThere_20 : decode cX1_isAwakeThere 20 = .ok (.goto 4, 3) := by decide +kernel
theorem dX1_isAwakeThere_23 : decode cX1_isAwakeThere 23 = .ok (.iconst 0, 1) := by decide +kernel
theorem dX1_isAwakeThere_24 : decode cX1_isAwakeThere 24 = .ok (.ireturn, 1) := by decide +kernel
set_option maxRecDepth 20000 in
theorem ggX1_countAwake_X1_isAwakeThere : GoodIn wsX1_countAwake wsX1_isAwakeThere := goodIn_r _ [6, 7, 8, 9, 10, 11, 12, 13] (by decide +kernel) (by decide +kernel)
set_option maxRecDepth 20000 in
theorem gX1_countAwake_X1_isAwakeThere : GoodIn wsX1_countAwake (wsV RX1 28 RX1 yX1_isAwakeThere wsX1_isAwakeThere) := goodIn_app (goodIn_of _ (by decide +kernel)) ggX1_countAwake_X1_isAwakeThere
theorem dX1_countAwake_0 : decode cX1_countAwake 0 = .ok (.iconst 0, 1) := by decide +kernel
theorem dX1_countAwake_1 : decode cX1_countAwake 1 = .ok (.istore_n 2, 1) := by decide +kernel
theorem dX1_countAwake_2 : decode cX1_countAwake 2 = .ok (.iconst 0, 1) := by decide +kernel
theorem dX1_countAwake_3 : decode cX1_countAwake 3 = .ok (.istore_n 3, 1) := by decide +kernel
theorem dX1_countAwake_4 : decode cX1_countAwake 4 = .ok (.iload_n 3, 1) := by decide +kernel
theorem dX1_countAwake_5 : decode cX1_countAwake 5 = .ok (.aload_n 0, 1) := by decide +kernel
theorem dX1_countAwake_6 : decode cX1_countAwake 6 = .ok (.getfield 24, 3) := by decide +kernel
theorem dX1_countAwake_9 : decode cX1_countAwake 9 = .ok (.if_icmp .ge 21, 3) := by decide +kernel
theorem dX1_countAwake_12 : decode cX1_countAwake 12 = .ok (.aload_n 0, 1) := by decide +kernel
theorem dX1_countAwake_13 : decode cX1_countAwake 13 = .ok (.iload_n 3, 1) := by decide +kernel
theorem dX1_countAwake_14 : decode cX1_countAwake 14 = .ok (.iload_n 1, 1) := by decide +kernel
theorem dX1_countAwake_15 : decode cX1_countAwake 15 = .ok (.invokevirtual 28, 3) := by decide +kernel
theorem dX1_countAwake_18 : decode cX1_countAwake 18 = .ok (.ifCond .eq 6, 3) := by decide +kernel
theorem dX1_countAwake_21 : decode cX1_countAwake 21 = .ok (.iinc 2 1, 3) := by decide +kernel
theorem dX1_countAwake_24 : decode cX1_countAwake 24 = .ok (.iinc 3 1, 3) := by decide +kernel
theorem dX1_countAwake_27 : decode cX1_countAwake 27 = .ok (.goto (-23), 3) := by decide +kernel
theorem dX1_countAwake_30 : decode cX1_countAwake 30 = .ok (.iload_n 2, 1) := by decide +kernel
theorem dX1_countAwake_31 : decode cX1_countAwake 31 = .ok (.ireturn, 1) := by decide +kernel
set_option maxRecDepth 20000 in
theorem ggX1_hissThere_X1_isAwakeThere : GoodIn wsX1_hissThere wsX1_isAwakeThere := goodIn_r _ [7, 8, 9, 10, 11, 12, 13, 14] (by decide +kernel) (by decide +kernel)
set_option maxRecDepth 20000 in
theorem gX1_hissThere_X1_isAwakeThere : GoodIn wsX1_hissThere (wsV RX1 28 RX1 yX1_isAwakeThere wsX1_isAwakeThere) := goodIn_app (goodIn_of _ (by decide +kernel)) ggX1_hissThere_X1_isAwakeThere
theorem dX1_hissThere_0 : decode cX1_hissThere 0 = .ok (.iconst 0, 1) := by decide +kernel
theorem dX1_hissThere_1 : decode cX1_hissThere 1 = .ok (.istore_n 3, 1) := by decide +kernel
theorem dX1_hissThere_2 : decode cX1_hissThere 2 = .ok (.iconst 0, 1) := by decide +kernel
theorem dX1_hissThere_3 : decode cX1_hissThere 3 = .ok (.istore 4, 2) := by decide +kernel
theorem dX1_hissThere_5 : decode cX1_hissThere 5 = .ok (.iload 4, 2) := by decide +kernel
theorem dX1_hissThere_7 : decode cX1_hissThere 7 = .ok (.aload_n 0, 1) := by decide +kernel
theorem dX1_hissThere_8 : decode cX1_hissThere 8 = .ok (.getfield 24, 3) := by decide +kernel
theorem dX1_hissThere_11 : decode cX1_hissThere 11 = .ok (.if_icmp .ge 31, 3) := by decide +kernel
theorem dX1_hissThere_14 : decode cX1_hissThere 14 = .ok (.aload_n 0, 1) := by decide +kernel
theorem dX1_hissThere_15 : decode cX1_hissThere 15 = .ok (.iload 4, 2) := by decide +kernel
theorem dX1_hissThere_17 : decode cX1_hissThere 17 = .ok (.iload_n 1, 1) := by decide +kernel
theorem dX1_hissThere_18 : decode cX1_hissThere 18 = .ok (.invokevirtual 28, 3) := by decide +kernel
theorem dX1_hissThere_21 : decode cX1_hissThere 21 = .ok (.ifCond .eq 15, 3) := by decide +kernel
theorem dX1_hissThere_24 : decode cX1_hissThere 24 = .ok (.iload_n 3, 1) := by decide +kernel
theorem dX1_hissThere_25 : decode cX1_hissThere 25 = .ok (.aload_n 0, 1) := by decide +kernel
theorem dX1_hissThere_26 : decode cX1_hissThere 26 = .ok (.getfield 15, 3) := by decide +kernel
theorem dX1_hissThere_29 : decode cX1_hissThere 29 = .ok (.iload 4, 2) := by decide +kernel
theorem dX1_hissThere_31 : decode cX1_hissThere 31 = .ok (.iaload, 1) := by decide +kernel
theorem dX1_hissThere_32 : decode cX1_hissThere 32 = .ok (.iload_n 2, 1) := by decide +kernel
theorem dX1_hissThere_33 : decode cX1_hissThere 33 = .ok (.iadd, 1) := by decide +kernel
theorem dX1_hissThere_34 : decode cX1_hissThere 34 = .ok (.iadd, 1) := by decide +kernel
theorem dX1_hissThere_35 : decode cX1_hissThere 35 = .ok (.istore_n 3, 1) := by decide +kernel
theorem dX1_hissThere_36 : decode cX1_hissThere 36 = .ok (.iinc 4 1, 3) := by decide +kernel
theorem dX1_hissThere_39 : decode cX1_hissThere 39 = .ok (.goto (-34), 3) := by decide +kernel
theorem dX1_hissThere_42 : decode cX1_hissThere 42 = .ok (.iload_n 3, 1) := by decide +kernel
theorem dX1_hissThere_43 : decode cX1_hissThere 43 = .ok (.ireturn, 1) := by decide +kernel
set_option maxRecDepth 20000 in
theorem ggX1_fiercestAwake_X1_isAwakeThere : GoodIn wsX1_fiercestAwake wsX1_isAwakeThere := goodIn_r _ [7, 8, 9, 10, 11, 12, 13, 14] (by decide +kernel) (by decide +kernel)
set_option maxRecDepth 20000 in
theorem gX1_fiercestAwake_X1_isAwakeThere : GoodIn wsX1_fiercestAwake (wsV RX1 28 RX1 yX1_isAwakeThere wsX1_isAwakeThere) := goodIn_app (goodIn_of _ (by decide +kernel)) ggX1_fiercestAwake_X1_isAwakeThere
theorem dX1_fiercestAwake_0 : decode cX1_fiercestAwake 0 = .ok (.iconst (-1), 1) := by decide +kernel
theorem dX1_fiercestAwake_1 : decode cX1_fiercestAwake 1 = .ok (.istore_n 2, 1) := by decide +kernel
theorem dX1_fiercestAwake_2 : decode cX1_fiercestAwake 2 = .ok (.iconst 0, 1) := by decide +kernel
theorem dX1_fiercestAwake_3 : decode cX1_fiercestAwake 3 = .ok (.istore_n 3, 1) := by decide +kernel
theorem dX1_fiercestAwake_4 : decode cX1_fiercestAwake 4 = .ok (.iconst 0, 1) := by decide +kernel
theorem dX1_fiercestAwake_5 : decode cX1_fiercestAwake 5 = .ok (.istore 4, 2) := by decide +kernel
theorem dX1_fiercestAwake_7 : decode cX1_fiercestAwake 7 = .ok (.iload 4, 2) := by decide +kernel
theorem dX1_fiercestAwake_9 : decode cX1_fiercestAwake 9 = .ok (.aload_n 0, 1) := by decide +kernel
theorem dX1_fiercestAwake_10 : decode cX1_fiercestAwake 10 = .ok (.getfield 24, 3) := by decide +kernel
theorem dX1_fiercestAwake_13 : decode cX1_fiercestAwake 13 = .ok (.if_icmp .ge 41, 3) := by decide +kernel
theorem dX1_fiercestAwake_16 : decode cX1_fiercestAwake 16 = .ok (.aload_n 0, 1) := by decide +kernel
theorem dX1_fiercestAwake_17 : decode cX1_fiercestAwake 17 = .ok (.iload 4, 2) := by decide +kernel
theorem dX1_fiercestAwake_19 : decode cX1_fiercestAwake 19 = .ok (.iload_n 1, 1) := by decide +kernel
theorem dX1_fiercestAwake_20 : decode cX1_fiercestAwake 20 = .ok (.invokevirtual 28, 3) := by decide +kernel
theorem dX1_fiercestAwake_23 : decode cX1_fiercestAwake 23 = .ok (.ifCond .eq 25, 3) := by decide +kernel
theorem dX1_fiercestAwake_26 : decode cX1_fiercestAwake 26 = .ok (.aload_n 0, 1) := by decide +kernel
theorem dX1_fiercestAwake_27 : decode cX1_fiercestAwake 27 = .ok (.getfield 15, 3) := by decide +kernel
theorem dX1_fiercestAwake_30 : decode cX1_fiercestAwake 30 = .ok (.iload 4, 2) := by decide +kernel
theorem dX1_fiercestAwake_32 : decode cX1_fiercestAwake 32 = .ok (.iaload, 1) := by decide +kernel
theorem dX1_fiercestAwake_33 : decode cX1_fiercestAwake 33 = .ok (.iload_n 3, 1) := by decide +kernel
theorem dX1_fiercestAwake_34 : decode cX1_fiercestAwake 34 = .ok (.if_icmp .le 14, 3) := by decide +kernel
theorem dX1_fiercestAwake_37 : decode cX1_fiercestAwake 37 = .ok (.aload_n 0, 1) := by decide +kernel
theorem dX1_fiercestAwake_38 : decode cX1_fiercestAwake 38 = .ok (.getfield 15, 3) := by decide +kernel
theorem dX1_fiercestAwake_41 : decode cX1_fiercestAwake 41 = .ok (.iload 4, 2) := by decide +kernel
theorem dX1_fiercestAwake_43 : decode cX1_fiercestAwake 43 = .ok (.iaload, 1) := by decide +kernel
theorem dX1_fiercestAwake_44 : decode cX1_fiercestAwake 44 = .ok (.istore_n 3, 1) := by decide +kernel
theorem dX1_fiercestAwake_45 : decode cX1_fiercestAwake 45 = .ok (.iload 4, 2) := by decide +kernel
theorem dX1_fiercestAwake_47 : decode cX1_fiercestAwake 47 = .ok (.istore_n 2, 1) := by decide +kernel
theorem dX1_fiercestAwake_48 : decode cX1_fiercestAwake 48 = .ok (.iinc 4 1, 3) := by decide +kernel
theorem dX1_fiercestAwake_51 : decode cX1_fiercestAwake 51 = .ok (.goto (-44), 3) := by decide +kernel
theorem dX1_fiercestAwake_54 : decode cX1_fiercestAwake 54 = .ok (.iload_n 2, 1) := by decide +kernel
theorem dX1_fiercestAwake_55 : decode cX1_fiercestAwake 55 = .ok (.ireturn, 1) := by decide +kernel
