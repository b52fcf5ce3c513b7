set_option maxRecDepth 20000 in
theorem ggX0_init_X1_init : GoodIn wsX0_init wsX1_init := goodIn_r _ [15, 16, 2, 3, 4, 17, 18, 19, 20, 36, 37, 38, 39, 40] (by decide +kernel) (by decide +kernel)
set_option maxRecDepth 20000 in
theorem gX0_init_X1_init_n17 : GoodIn wsX0_init (wsX1_init) := ggX0_init_X1_init
set_option maxRecDepth 20000 in
theorem ggX0_init_X2_init : GoodIn wsX0_init wsX2_init := goodIn_r _ [22, 23, 2, 3, 4, 24, 25, 26, 27, 28, 41, 42, 43, 44, 45, 46] (by decide +kernel) (by decide +kernel)
set_option maxRecDepth 20000 in
theorem gX0_init_X2_init_n24 : GoodIn wsX0_init (wsX2_init) := ggX0_init_X2_init
theorem dX0_init_0 : decode cX0_init 0 = .ok (.aload_n 0, 1) := by decide +kernel
theorem dX0_init_1 : decode cX0_init 1 = .ok (.invokespecial 3, 3) := by decide +kernel
theorem dX0_init_4 : decode cX0_init 4 = .ok (.aload_n 0, 1) := by decide +kernel
theorem dX0_init_5 : decode cX0_init 5 = .ok (.bipush 6, 2) := by decide +kernel
theorem dX0_init_7 : decode cX0_init 7 = .ok (.newarray .int, 2) := by decide +kernel
theorem dX0_init_9 : decode cX0_init 9 = .ok (.putfield 9, 3) := by decide +kernel
theorem dX0_init_12 : decode cX0_init 12 = .ok (.aload_n 0, 1) := by decide +kernel
theorem dX0_init_13 : decode cX0_init 13 = .ok (.new 15, 3) := by decide +kernel
theorem dX0_init_16 : decode cX0_init 16 = .ok (.dup, 1) := by decide +kernel
theorem dX0_init_17 : decode cX0_init 17 = .ok (.invokespecial 17, 3) := by decide +kernel
theorem dX0_init_20 : decode cX0_init 20 = .ok (.putfield 18, 3) := by decide +kernel
theorem dX0_init_23 : decode cX0_init 23 = .ok (.aload_n 0, 1) := by decide +kernel
theorem dX0_init_24 : decode cX0_init 24 = .ok (.new 22, 3) := by decide +kernel
theorem dX0_init_27 : decode cX0_init 27 = .ok (.dup, 1) := by decide +kernel
theorem dX0_init_28 : decode cX0_init 28 = .ok (.invokespecial 24, 3) := by decide +kernel
theorem dX0_init_31 : decode cX0_init 31 = .ok (.putfield 25, 3) := by decide +kernel
theorem dX0_init_34 : decode cX0_init 34 = .ok (.return_, 1) := by decide +kernel
theorem dX0_hasGate_0 : decode cX0_hasGate 0 = .ok (.iload_n 1, 1) := by decide +kernel
theorem dX0_hasGate_1 : decode cX0_hasGate 1 = .ok (.ifCond .lt 15, 3) := by decide +kernel
theorem dX0_hasGate_4 : decode cX0_hasGate 4 = .ok (.iload_n 1, 1) := by decide +kernel
theorem dX0_hasGate_5 : decode cX0_hasGate 5 = .ok (.aload_n 0, 1) := by decide +kernel
theorem dX0_hasGate_6 : decode cX0_hasGate 6 = .ok (.getfield 29, 3) := by decide +kernel
theorem dX0_hasGate_9 : decode cX0_hasGate 9 = .ok (.if_icmp .ge 7, 3) := by decide +kernel
theorem dX0_hasGate_12 : decode cX0_hasGate 12 = .ok (.iconst 1, 1) := by decide +kernel
theorem dX0_hasGate_13 : decode cX0_hasGate 13 = .ok (.goto 4, 3) := by decide +kernel
theorem dX0_hasGate_16 : decode cX0_hasGate 16 = .ok (.iconst 0, 1) := by decide +kernel
theorem dX0_hasGate_17 : decode cX0_hasGate 17 = .ok (.ireturn, 1) := by decide +kernel
theorem dX0_putGate_0 : decode cX0_putGate 0 = .ok (.aload_n 0, 1) := by decide +kernel
theorem dX0_putGate_1 : decode cX0_putGate 1 = .ok (.getfield 29, 3) := by decide +kernel
theorem dX0_putGate_4 : decode cX0_putGate 4 = .ok (.istore_n 2, 1) := by decide +kernel
theorem dX0_putGate_5 : decode cX0_putGate 5 = .ok (.aload_n 0, 1) := by decide +kernel
theorem dX0_putGate_6 : decode cX0_putGate 6 = .ok (.getfield 9, 3) := by decide +kernel
theorem dX0_putGate_9 : decode cX0_putGate 9 = .ok (.iload_n 2, 1) := by decide +kernel
theorem dX0_putGate_10 : decode cX0_putGate 10 = .ok (.iload_n 1, 1) := by decide +kernel
theorem dX0_putGate_11 : decode cX0_putGate 11 = .ok (.iastore, 1) := by decide +kernel
theorem dX0_putGate_12 : decode cX0_putGate 12 = .ok (.aload_n 0, 1) := by decide +kernel
theorem dX0_putGate_13 : decode cX0_putGate 13 = .ok (.dup, 1) := by decide +kernel
theorem dX0_putGate_14 : decode cX0_putGate 14 = .ok (.getfield 29, 3) := by decide +kernel
theorem dX0_putGate_17 : decode cX0_putGate 17 = .ok (.iconst 1, 1) := by decide +kernel
theorem dX0_putGate_18 : decode cX0_putGate 18 = .ok (.iadd, 1) := by decide +kernel
theorem dX0_putGate_19 : decode cX0_putGate 19 = .ok (.putfield 29, 3) := by decide +kernel
theorem dX0_putGate_22 : decode cX0_putGate 22 = .ok (.iload_n 2, 1) := by decide +kernel
theorem dX0_putGate_23 : decode cX0_putGate 23 = .ok (.ireturn, 1) := by decide +kernel
set_option maxRecDepth 20000 in
theorem ggX0_rankLack_X0_hasGate : GoodIn wsX0_rankLack wsX0_hasGate := goodIn_r _ [10, 11, 12, 13, 14, 15, 16, 17, 18] (by decide +kernel) (by decide +kernel)
set_option maxRecDepth 20000 in
theorem gX0_rankLack_X0_hasGate : GoodIn wsX0_rankLack (wsV RX0 33 RX0 yX0_hasGate wsX0_hasGate) := goodIn_app (goodIn_of _ (by decide +kernel)) ggX0_rankLack_X0_hasGate
theorem dX0_rankLack_0 : decode cX0_rankLack 0 = .ok (.aload_n 0, 1) := by decide +kernel
theorem dX0_rankLack_1 : decode cX0_rankLack 1 = .ok (.iload_n 1, 1) := by decide +kernel
theorem dX0_rankLack_2 : decode cX0_rankLack 2 = .ok (.invokevirtual 33, 3) := by decide +kernel
theorem dX0_rankLack_5 : decode cX0_rankLack 5 = .ok (.ifCond .eq 18, 3) := by decide +kernel
theorem dX0_rankLack_8 : decode cX0_rankLack 8 = .ok (.iconst 0, 1) := by decide +kernel
theorem dX0_rankLack_9 : decode cX0_rankLack 9 = .ok (.aload_n 0, 1) := by decide +kernel
theorem dX0_rankLack_10 : decode cX0_rankLack 10 = .ok (.getfield 9, 3) := by decide +kernel
theorem dX0_rankLack_13 : decode cX0_rankLack 13 = .ok (.iload_n 1, 1) := by decide +kernel
theorem dX0_rankLack_14 : decode cX0_rankLack 14 = .ok (.iaload, 1) := by decide +kernel
theorem dX0_rankLack_15 : decode cX0_rankLack 15 = .ok (.iload_n 2, 1) := by decide +kernel
theorem dX0_rankLack_16 : decode cX0_rankLack 16 = .ok (.isub, 1) := by decide +kernel
theorem dX0_rankLack_17 : decode cX0_rankLack 17 = .ok (.invokestatic 37, 3) := by decide +kernel
theorem dX0_rankLack_20 : decode cX0_rankLack 20 = .ok (.goto 4, 3) := by decide +kernel
theorem dX0_rankLack_23 : decode cX0_rankLack 23 = .ok (.iconst 0, 1) := by decide +kernel
theorem dX0_rankLack_24 : decode cX0_rankLack 24 = .ok (.ireturn, 1) := by decide +kernel
set_option maxRecDepth 20000 in
theorem ggX0_gateHiss_X0_rankLack : GoodIn wsX0_gateHiss wsX0_rankLack := goodIn_r _ [6, 7, 8, 9, 10, 11, 12, 13, 14, 5, 15, 16, 30, 31, 32, 33, 34, 35, 36] (by decide +kernel) (by decide +kernel)
set_option maxRecDepth 20000 in
theorem gX0_gateHiss_X0_rankLack : GoodIn wsX0_gateHiss (wsV RX0 43 RX0 yX0_rankLack wsX0_rankLack) := goodIn_app (goodIn_of _ (by decide +kernel)) ggX0_gateHiss_X0_rankLack
set_option maxRecDepth 20000 in
theorem ggX0_gateHiss_X1_hissThere : GoodIn wsX0_gateHiss wsX1_hissThere := goodIn_r _ [21, 22, 23, 24, 25, 26, 20, 27, 28, 29, 37, 38, 39, 40, 41] (by decide +kernel) (by decide +kernel)
set_option maxRecDepth 20000 in
theorem gX0_gateHiss_X1_hissThere : GoodIn wsX0_gateHiss (wsV RX0 46 RX1 yX1_hissThere wsX1_hissThere) := goodIn_app (goodIn_of _ (by decide +kernel)) ggX0_gateHiss_X1_hissThere
theorem dX0_gateHiss_0 : decode cX0_gateHiss 0 = .ok (.aload_n 0, 1) := by decide +kernel
theorem dX0_gateHiss_1 : decode cX0_gateHiss 1 = .ok (.getfield 18, 3) := by decide +kernel
theorem dX0_gateHiss_4 : decode cX0_gateHiss 4 = .ok (.iload_n 1, 1) := by decide +kernel
theorem dX0_gateHiss_5 : decode cX0_gateHiss 5 = .ok (.aload_n 0, 1) := by decide +kernel
theorem dX0_gateHiss_6 : decode cX0_gateHiss 6 = .ok (.iload_n 1, 1) := by decide +kernel
theorem dX0_gateHiss_7 : decode cX0_gateHiss 7 = .ok (.iload_n 2, 1) := by decide +kernel
theorem dX0_gateHiss_8 : decode cX0_gateHiss 8 = .ok (.invokevirtual 43, 3) := by decide +kernel
theorem dX0_gateHiss_11 : decode cX0_gateHiss 11 = .ok (.invokevirtual 46, 3) := by decide +kernel
theorem dX0_gateHiss_14 : decode cX0_gateHiss 14 = .ok (.ireturn, 1) := by decide +kernel
set_option maxRecDepth 20000 in
theorem ggX0_guestHiss_X0_gateHiss : GoodIn wsX0_guestHiss wsX0_gateHiss := goodIn_r _ [8, 9, 10, 11, 12, 7, 13, 14, 15, 16, 17, 18, 19, 20, 21, 22, 23, 24, 25, 26, 27, 28, 29, 30, 31, 32, 33, 34, 35, 36, 37, 38, 39, 40, 41, 42, 43, 50, 51, 52, 53, 54] (by decide +kernel) (by decide +kernel)
set_option maxRecDepth 20000 in
theorem gX0_guestHiss_X0_gateHiss : GoodIn wsX0_guestHiss (wsV RX0 55 RX0 yX0_gateHiss wsX0_gateHiss) := goodIn_app (goodIn_of _ (by decide +kernel)) ggX0_guestHiss_X0_gateHiss
theorem dX0_guestHiss_0 : decode cX0_guestHiss 0 = .ok (.aload_n 0, 1) := by decide +kernel
theorem dX0_guestHiss_1 : decode cX0_guestHiss 1 = .ok (.aload_n 0, 1) := by decide +kernel
theorem dX0_guestHiss_2 : decode cX0_guestHiss 2 = .ok (.getfield 25, 3) := by decide +kernel
theorem dX0_guestHiss_5 : decode cX0_guestHiss 5 = .ok (.getfield 49, 3) := by decide +kernel
theorem dX0_guestHiss_8 : decode cX0_guestHiss 8 = .ok (.iload_n 1, 1) := by decide +kernel
theorem dX0_guestHiss_9 : decode cX0_guestHiss 9 = .ok (.iaload, 1) := by decide +kernel
theorem dX0_guestHiss_10 : decode cX0_guestHiss 10 = .ok (.aload_n 0, 1) := by decide +kernel
theorem dX0_guestHiss_11 : decode cX0_guestHiss 11 = .ok (.getfield 25, 3) := by decide +kernel
theorem dX0_guestHiss_14 : decode cX0_guestHiss 14 = .ok (.getfield 52, 3) := by decide +kernel
theorem dX0_guestHiss_17 : decode cX0_guestHiss 17 = .ok (.iload_n 1, 1) := by decide +kernel
theorem dX0_guestHiss_18 : decode cX0_guestHiss 18 = .ok (.iaload, 1) := by decide +kernel
theorem dX0_guestHiss_19 : decode cX0_guestHiss 19 = .ok (.invokevirtual 55, 3) := by decide +kernel
theorem dX0_guestHiss_22 : decode cX0_guestHiss 22 = .ok (.ireturn, 1) := by decide +kernel
theorem dX0_isBehindAll_0 : decode cX0_isBehindAll 0 = .ok (.aload_n 0, 1) := by decide +kernel
theorem dX0_isBehindAll_1 : decode cX0_isBehindAll 1 = .ok (.getfield 25, 3) := by decide +kernel
theorem dX0_isBehindAll_4 : decode cX0_isBehindAll 4 = .ok (.getfield 49, 3) := by decide +kernel
theorem dX0_isBehindAll_7 : decode cX0_isBehindAll 7 = .ok (.iload_n 1, 1) := by decide +kernel
theorem dX0_isBehindAll_8 : decode cX0_isBehindAll 8 = .ok (.iaload, 1) := by decide +kernel
theorem dX0_isBehindAll_9 : decode cX0_isBehindAll 9 = .ok (.aload_n 0, 1) := by decide +kernel
theorem dX0_isBehindAll_10 : decode cX0_isBehindAll 10 = .ok (.getfield 29, 3) := by decide +kernel
theorem dX0_isBehindAll_13 : decode cX0_isBehindAll 13 = .ok (.if_icmp .lt 7, 3) := by decide +kernel
theorem dX0_isBehindAll_16 : decode cX0_isBehindAll 16 = .ok (.iconst 1, 1) := by decide +kernel
theorem dX0_isBehindAll_17 : decode cX0_isBehindAll 17 = .ok (.goto 4, 3) := by decide +kernel
theorem dX0_isBehindAll_20 : decode cX0_isBehindAll 20 = .ok (.iconst 0, 1) := by decide +kernel
theorem dX0_isBehindAll_21 : decode cX0_isBehindAll 21 = .ok (.ireturn, 1) := by decide +kernel
set_option maxRecDepth 20000 in
theorem ggX0_countInside_X0_isBehindAll : GoodIn wsX0_countInside wsX0_isBehindAll := goodIn_r _ [7, 1, 8, 9, 10, 11, 12, 13, 14, 15, 16, 17, 18, 19, 20, 21, 22] (by decide +kernel) (by decide +kernel)
set_option maxRecDepth 20000 in
theorem gX0_countInside_X0_isBehindAll : GoodIn wsX0_countInside (wsV RX0 61 RX0 yX0_isBehindAll wsX0_isBehindAll) := goodIn_app (goodIn_of _ (by decide +kernel)) ggX0_countInside_X0_isBehindAll
theorem dX0_countInside_0 : decode cX0_countInside 0 = .ok (.iconst 0, 1) := by decide +kernel
theorem dX0_countInside_1 : decode cX0_countInside 1 = .ok (.istore_n 1, 1) := by decide +kernel
theorem dX0_countInside_2 : decode cX0_countInside 2 = .ok (.iconst 0, 1) := by decide +kernel
theorem dX0_countInside_3 : decode cX0_countInside 3 = .ok (.istore_n 2, 1) := by decide +kernel
theorem dX0_countInside_4 : decode cX0_countInside 4 = .ok (.iload_n 2, 1) := by decide +kernel
theorem dX0_countInside_5 : decode cX0_countInside 5 = .ok (.aload_n 0, 1) := by decide +kernel
theorem dX0_countInside_6 : decode cX0_countInside 6 = .ok (.getfield 25, 3) := by decide +kernel
theorem dX0_countInside_9 : decode cX0_countInside 9 = .ok (.getfield 58, 3) := by decide +kernel
theorem dX0_countInside_12 : decode cX0_countInside 12 = .ok (.if_icmp .ge 20, 3) := by decide +kernel
theorem dX0_countInside_15 : decode cX0_countInside 15 = .ok (.aload_n 0, 1) := by decide +kernel
theorem dX0_countInside_16 : decode cX0_countInside 16 = .ok (.iload_n 2, 1) := by decide +kernel
theorem dX0_countInside_17 : decode cX0_countInside 17 = .ok (.invokevirtual 61, 3) := by decide +kernel
theorem dX0_countInside_20 : decode cX0_countInside 20 = .ok (.ifCond .eq 6, 3) := by decide +kernel
theorem dX0_countInside_23 : decode cX0_countInside 23 = .ok (.iinc 1 1, 3) := by decide +kernel
theorem dX0_countInside_26 : decode cX0_countInside 26 = .ok (.iinc 2 1, 3) := by decide +kernel
theorem dX0_countInside_29 : decode cX0_countInside 29 = .ok (.goto (-25), 3) := by decide +kernel
theorem dX0_countInside_32 : decode cX0_countInside 32 = .ok (.iload_n 1, 1) := by decide +kernel
theorem dX0_countInside_33 : decode cX0_countInside 33 = .ok (.ireturn, 1) := by decide +kernel
set_option maxRecDepth 20000 in
theorem ggX0_payGoose_X1_feed : GoodIn wsX0_payGoose wsX1_feed := goodIn_r _ [9, 10, 11, 12, 13, 14, 15, 16, 30, 31, 32, 33, 34] (by decide +kernel) (by decide +kernel)
set_option maxRecDepth 20000 in
theorem gX0_payGoose_X1_feed : GoodIn wsX0_payGoose (wsV RX0 67 RX1 yX1_feed wsX1_feed) := goodIn_app (goodIn_of _ (by decide +kernel)) ggX0_payGoose_X1_feed
theorem dX0_payGoose_0 : decode cX0_payGoose 0 = .ok (.aload_n 0, 1) := by decide +kernel
theorem dX0_payGoose_1 : decode cX0_payGoose 1 = .ok (.getfield 25, 3) := by decide +kernel
theorem dX0_payGoose_4 : decode cX0_payGoose 4 = .ok (.getfield 64, 3) := by decide +kernel
theorem dX0_payGoose_7 : decode cX0_payGoose 7 = .ok (.iload_n 1, 1) := by decide +kernel
theorem dX0_payGoose_8 : decode cX0_payGoose 8 = .ok (.dup2, 1) := by decide +kernel
theorem dX0_payGoose_9 : decode cX0_payGoose 9 = .ok (.iaload, 1) := by decide +kernel
theorem dX0_payGoose_10 : decode cX0_payGoose 10 = .ok (.iconst 1, 1) := by decide +kernel
theorem dX0_payGoose_11 : decode cX0_payGoose 11 = .ok (.isub, 1) := by decide +kernel
theorem dX0_payGoose_12 : decode cX0_payGoose 12 = .ok (.iastore, 1) := by decide +kernel
theorem dX0_payGoose_13 : decode cX0_payGoose 13 = .ok (.aload_n 0, 1) := by decide +kernel
theorem dX0_payGoose_14 : decode cX0_payGoose 14 = .ok (.getfield 18, 3) := by decide +kernel
theorem dX0_payGoose_17 : decode cX0_payGoose 17 = .ok (.iload_n 2, 1) := by decide +kernel
theorem dX0_payGoose_18 : decode cX0_payGoose 18 = .ok (.invokevirtual 67, 3) := by decide +kernel
theorem dX0_payGoose_21 : decode cX0_payGoose 21 = .ok (.aload_n 0, 1) := by decide +kernel
theorem dX0_payGoose_22 : decode cX0_payGoose 22 = .ok (.dup, 1) := by decide +kernel
theorem dX0_payGoose_23 : decode cX0_payGoose 23 = .ok (.getfield 71, 3) := by decide +kernel
theorem dX0_payGoose_26 : decode cX0_payGoose 26 = .ok (.iconst 1, 1) := by decide +kernel
theorem dX0_payGoose_27 : decode cX0_payGoose 27 = .ok (.iadd, 1) := by decide +kernel
theorem dX0_payGoose_28 : decode cX0_payGoose 28 = .ok (.putfield 71, 3) := by decide +kernel
theorem dX0_payGoose_31 : decode cX0_payGoose 31 = .ok (.return_, 1) := by decide +kernel
set_option maxRecDepth 20000 in
theorem ggX0_fewestToCalm_X0_rankLack : GoodIn wsX0_fewestToCalm wsX0_rankLack := goodIn_r _ [12, 13, 14, 15, 16, 17, 18, 19, 20, 11, 21, 22, 45, 46, 47, 48, 49, 50, 51] (by decide +kernel) (by decide +kernel)
set_option maxRecDepth 20000 in
theorem gX0_fewestToCalm_X0_rankLack : GoodIn wsX0_fewestToCalm (wsV RX0 43 RX0 yX0_rankLack wsX0_rankLack) := goodIn_app (goodIn_of _ (by decide +kernel)) ggX0_fewestToCalm_X0_rankLack
set_option maxRecDepth 20000 in
theorem ggX0_fewestToCalm_X0_guestHiss : GoodIn wsX0_fewestToCalm wsX0_guestHiss := goodIn_r _ [26, 1, 2, 3, 27, 28, 29, 11, 30, 4, 8, 9, 10, 12, 13, 14, 15, 16, 17, 18, 19, 20, 21, 22, 31, 32, 33, 34, 35, 36, 37, 38, 39, 40, 41, 42, 43, 45, 46, 47, 48, 49, 50, 51, 52, 53, 54, 55, 56, 57, 58, 59, 60, 61, 62] (by decide +kernel) (by decide +kernel)
set_option maxRecDepth 20000 in
theorem gX0_fewestToCalm_X0_guestHiss : GoodIn wsX0_fewestToCalm (wsV RX0 74 RX0 yX0_guestHiss wsX0_guestHiss) := goodIn_app (goodIn_of _ (by decide +kernel)) ggX0_fewestToCalm_X0_guestHiss
set_option maxRecDepth 20000 in
theorem ggX0_fewestToCalm_X1_isAwakeThere : GoodIn wsX0_fewestToCalm wsX1_isAwakeThere := goodIn_r _ [41, 42, 43, 58, 59, 60, 61, 62] (by decide +kernel) (by decide +kernel)
set_option maxRecDepth 20000 in
theorem gX0_fewestToCalm_X1_isAwakeThere : GoodIn wsX0_fewestToCalm (wsV RX0 85 RX1 yX1_isAwakeThere wsX1_isAwakeThere) := goodIn_app (goodIn_of _ (by decide +kernel)) ggX0_fewestToCalm_X1_isAwakeThere
theorem dX0_fewestToCalm_0 : decode cX0_fewestToCalm 0 = .ok (.aload_n 0, 1) := by decide +kernel
theorem dX0_fewestToCalm_1 : decode cX0_fewestToCalm 1 = .ok (.getfield 25, 3) := by decide +kernel
theorem dX0_fewestToCalm_4 : decode cX0_fewestToCalm 4 = .ok (.getfield 49, 3) := by decide +kernel
theorem dX0_fewestToCalm_7 : decode cX0_fewestToCalm 7 = .ok (.iload_n 1, 1) := by decide +kernel
theorem dX0_fewestToCalm_8 : decode cX0_fewestToCalm 8 = .ok (.iaload, 1) := by decide +kernel
theorem dX0_fewestToCalm_9 : decode cX0_fewestToCalm 9 = .ok (.istore_n 2, 1) := by decide +kernel
theorem dX0_fewestToCalm_10 : decode cX0_fewestToCalm 10 = .ok (.aload_n 0, 1) := by decide +kernel
theorem dX0_fewestToCalm_11 : decode cX0_fewestToCalm 11 = .ok (.iload_n 2, 1) := by decide +kernel
theorem dX0_fewestToCalm_12 : decode cX0_fewestToCalm 12 = .ok (.aload_n 0, 1) := by decide +kernel
theorem dX0_fewestToCalm_13 : decode cX0_fewestToCalm 13 = .ok (.getfield 25, 3) := by decide +kernel
theorem dX0_fewestToCalm_16 : decode cX0_fewestToCalm 16 = .ok (.getfield 52, 3) := by decide +kernel
theorem dX0_fewestToCalm_19 : decode cX0_fewestToCalm 19 = .ok (.iload_n 1, 1) := by decide +kernel
theorem dX0_fewestToCalm_20 : decode cX0_fewestToCalm 20 = .ok (.iaload, 1) := by decide +kernel
theorem dX0_fewestToCalm_21 : decode cX0_fewestToCalm 21 = .ok (.invokevirtual 43, 3) := by decide +kernel
theorem dX0_fewestToCalm_24 : decode cX0_fewestToCalm 24 = .ok (.istore_n 3, 1) := by decide +kernel
theorem dX0_fewestToCalm_25 : decode cX0_fewestToCalm 25 = .ok (.aload_n 0, 1) := by decide +kernel
theorem dX0_fewestToCalm_26 : decode cX0_fewestToCalm 26 = .ok (.iload_n 1, 1) := by decide +kernel
theorem dX0_fewestToCalm_27 : decode cX0_fewestToCalm 27 = .ok (.invokevirtual 74, 3) := by decide +kernel
theorem dX0_fewestToCalm_30 : decode cX0_fewestToCalm 30 = .ok (.istore 4, 2) := by decide +kernel
theorem dX0_fewestToCalm_32 : decode cX0_fewestToCalm 32 = .ok (.iconst 0, 1) := by decide +kernel
theorem dX0_fewestToCalm_33 : decode cX0_fewestToCalm 33 = .ok (.istore 5, 2) := by decide +kernel
theorem dX0_fewestToCalm_35 : decode cX0_fewestToCalm 35 = .ok (.bipush 9, 2) := by decide +kernel
theorem dX0_fewestToCalm_37 : decode cX0_fewestToCalm 37 = .ok (.istore 6, 2) := by decide +kernel
theorem dX0_fewestToCalm_39 : decode cX0_fewestToCalm 39 = .ok (.iload 6, 2) := by decide +kernel
theorem dX0_fewestToCalm_41 : decode cX0_fewestToCalm 41 = .ok (.iconst 1, 1) := by decide +kernel
theorem dX0_fewestToCalm_42 : decode cX0_fewestToCalm 42 = .ok (.if_icmp .lt 84, 3) := by decide +kernel
theorem dX0_fewestToCalm_45 : decode cX0_fewestToCalm 45 = .ok (.iconst 0, 1) := by decide +kernel
theorem dX0_fewestToCalm_46 : decode cX0_fewestToCalm 46 = .ok (.istore 7, 2) := by decide +kernel
theorem dX0_fewestToCalm_48 : decode cX0_fewestToCalm 48 = .ok (.iload 7, 2) := by decide +kernel
theorem dX0_fewestToCalm_50 : decode cX0_fewestToCalm 50 = .ok (.aload_n 0, 1) := by decide +kernel
theorem dX0_fewestToCalm_51 : decode cX0_fewestToCalm 51 = .ok (.getfield 18, 3) := by decide +kernel
theorem dX0_fewestToCalm_54 : decode cX0_fewestToCalm 54 = .ok (.getfield 78, 3) := by decide +kernel
theorem dX0_fewestToCalm_57 : decode cX0_fewestToCalm 57 = .ok (.if_icmp .ge 63, 3) := by decide +kernel
theorem dX0_fewestToCalm_60 : decode cX0_fewestToCalm 60 = .ok (.iload 4, 2) := by decide +kernel
theorem dX0_fewestToCalm_62 : decode cX0_fewestToCalm 62 = .ok (.aload_n 0, 1) := by decide +kernel
theorem dX0_fewestToCalm_63 : decode cX0_fewestToCalm 63 = .ok (.getfield 25, 3) := by decide +kernel
theorem dX0_fewestToCalm_66 : decode cX0_fewestToCalm 66 = .ok (.getfield 79, 3) := by decide +kernel
theorem dX0_fewestToCalm_69 : decode cX0_fewestToCalm 69 = .ok (.iload_n 1, 1) := by decide +kernel
theorem dX0_fewestToCalm_70 : decode cX0_fewestToCalm 70 = .ok (.iaload, 1) := by decide +kernel
theorem dX0_fewestToCalm_71 : decode cX0_fewestToCalm 71 = .ok (.if_icmp .le 43, 3) := by decide +kernel
theorem dX0_fewestToCalm_74 : decode cX0_fewestToCalm 74 = .ok (.aload_n 0, 1) := by decide +kernel
theorem dX0_fewestToCalm_75 : decode cX0_fewestToCalm 75 = .ok (.getfield 18, 3) := by decide +kernel
theorem dX0_fewestToCalm_78 : decode cX0_fewestToCalm 78 = .ok (.getfield 82, 3) := by decide +kernel
theorem dX0_fewestToCalm_81 : decode cX0_fewestToCalm 81 = .ok (.iload 7, 2) := by decide +kernel
theorem dX0_fewestToCalm_83 : decode cX0_fewestToCalm 83 = .ok (.iaload, 1) := by decide +kernel
theorem dX0_fewestToCalm_84 : decode cX0_fewestToCalm 84 = .ok (.iload 6, 2) := by decide +kernel
theorem dX0_fewestToCalm_86 : decode cX0_fewestToCalm 86 = .ok (.if_icmp .ne 28, 3) := by decide +kernel
theorem dX0_fewestToCalm_89 : decode cX0_fewestToCalm 89 = .ok (.aload_n 0, 1) := by decide +kernel
theorem dX0_fewestToCalm_90 : decode cX0_fewestToCalm 90 = .ok (.getfield 18, 3) := by decide +kernel
theorem dX0_fewestToCalm_93 : decode cX0_fewestToCalm 93 = .ok (.iload 7, 2) := by decide +kernel
theorem dX0_fewestToCalm_95 : decode cX0_fewestToCalm 95 = .ok (.iload_n 2, 1) := by decide +kernel
theorem dX0_fewestToCalm_96 : decode cX0_fewestToCalm 96 = .ok (.invokevirtual 85, 3) := by decide +kernel
theorem dX0_fewestToCalm_99 : decode cX0_fewestToCalm 99 = .ok (.ifCond .eq 15, 3) := by decide +kernel
theorem dX0_fewestToCalm_102 : decode cX0_fewestToCalm 102 = .ok (.iload 4, 2) := by decide +kernel
theorem dX0_fewestToCalm_104 : decode cX0_fewestToCalm 104 = .ok (.iload 6, 2) := by decide +kernel
theorem dX0_fewestToCalm_106 : decode cX0_fewestToCalm 106 = .ok (.iload_n 3, 1) := by decide +kernel
theorem dX0_fewestToCalm_107 : decode cX0_fewestToCalm 107 = .ok (.iadd, 1) := by decide +kernel
theorem dX0_fewestToCalm_108 : decode cX0_fewestToCalm 108 = .ok (.isub, 1) := by decide +kernel
theorem dX0_fewestToCalm_109 : decode cX0_fewestToCalm 109 = .ok (.istore 4, 2) := by decide +kernel
theorem dX0_fewestToCalm_111 : decode cX0_fewestToCalm 111 = .ok (.iinc 5 1, 3) := by decide +kernel
theorem dX0_fewestToCalm_114 : decode cX0_fewestToCalm 114 = .ok (.iinc 7 1, 3) := by decide +kernel
theorem dX0_fewestToCalm_117 : decode cX0_fewestToCalm 117 = .ok (.goto (-69), 3) := by decide +kernel
theorem dX0_fewestToCalm_120 : decode cX0_fewestToCalm 120 = .ok (.iinc 6 (-1), 3) := by decide +kernel
theorem dX0_fewestToCalm_123 : decode cX0_fewestToCalm 123 = .ok (.goto (-84), 3) := by decide +kernel
theorem dX0_fewestToCalm_126 : decode cX0_fewestToCalm 126 = .ok (.iload 5, 2) := by decide +kernel
theorem dX0_fewestToCalm_128 : decode cX0_fewestToCalm 128 = .ok (.ireturn, 1) := by decide +kernel
set_option maxRecDepth 20000 in
theorem ggX0_runBeats_X0_runBeat : GoodIn wsX0_runBeats wsX0_runBeat := goodIn_r _ [5, 6, 7, 8, 9, 10, 11, 12, 13, 14, 15, 16, 17, 18, 19, 4, 20, 21, 22, 23, 24, 25, 26, 27, 28, 29, 30, 31, 32, 33, 34, 35, 36, 37, 38, 39, 40, 41, 42, 43, 44, 45, 46, 47, 48, 49, 50, 51, 52, 53, 54, 55, 56, 57, 58, 59, 60, 61, 62, 63, 64, 65, 66, 67, 68, 69, 70, 71, 72, 73, 74, 75, 76, 77, 78, 79, 80, 81, 82, 83, 84, 85, 86, 87, 88, 89, 90, 91, 92, 93, 94, 95, 96, 97, 98, 99, 100, 101, 102, 103, 104, 105, 106, 107, 108, 109, 110, 111, 112, 113, 114] (by decide +kernel) (by decide +kernel)
set_option maxRecDepth 20000 in
theorem gX0_runBeats_X0_runBeat : GoodIn wsX0_runBeats (wsV RX0 89 RX0 yX0_runBeat wsX0_runBeat) := goodIn_app (goodIn_of _ (by decide +kernel)) ggX0_runBeats_X0_runBeat
theorem dX0_runBeats_0 : decode cX0_runBeats 0 = .ok (.iconst 0, 1) := by decide +kernel
theorem dX0_runBeats_1 : decode cX0_runBeats 1 = .ok (.istore_n 2, 1) := by decide +kernel
theorem dX0_runBeats_2 : decode cX0_runBeats 2 = .ok (.iload_n 2, 1) := by decide +kernel
theorem dX0_runBeats_3 : decode cX0_runBeats 3 = .ok (.iload_n 1, 1) := by decide +kernel
theorem dX0_runBeats_4 : decode cX0_runBeats 4 = .ok (.if_icmp .ge 13, 3) := by decide +kernel
theorem dX0_runBeats_7 : decode cX0_runBeats 7 = .ok (.aload_n 0, 1) := by decide +kernel
theorem dX0_runBeats_8 : decode cX0_runBeats 8 = .ok (.invokevirtual 89, 3) := by decide +kernel
theorem dX0_runBeats_11 : decode cX0_runBeats 11 = .ok (.iinc 2 1, 3) := by decide +kernel
theorem dX0_runBeats_14 : decode cX0_runBeats 14 = .ok (.goto (-12), 3) := by decide +kernel
theorem dX0_runBeats_17 : decode cX0_runBeats 17 = .ok (.return_, 1) := by decide +kernel
set_option maxRecDepth 20000 in
theorem ggX0_runBeat_X1_wakeByABeat : GoodIn wsX0_runBeat wsX1_wakeByABeat := goodIn_r _ [9, 10, 11, 106, 107, 108, 109, 110] (by decide +kernel) (by decide +kernel)
set_option maxRecDepth 20000 in
theorem gX0_runBeat_X1_wakeByABeat : GoodIn wsX0_runBeat (wsV RX0 92 RX1 yX1_wakeByABeat wsX1_wakeByABeat) := goodIn_app (goodIn_of _ (by decide +kernel)) ggX0_runBeat_X1_wakeByABeat
set_option maxRecDepth 20000 in
theorem ggX0_runBeat_X0_isBehindAll : GoodIn wsX0_runBeat wsX0_isBehindAll := goodIn_r _ [16, 2, 17, 18, 93, 94, 95, 96, 97, 98, 99, 100, 101, 102, 103, 104, 105] (by decide +kernel) (by decide +kernel)
set_option maxRecDepth 20000 in
theorem gX0_runBeat_X0_isBehindAll : GoodIn wsX0_runBeat (wsV RX0 61 RX0 yX0_isBehindAll wsX0_isBehindAll) := goodIn_app (goodIn_of _ (by decide +kernel)) ggX0_runBeat_X0_isBehindAll
set_option maxRecDepth 20000 in
theorem ggX0_runBeat_X0_moveGuest : GoodIn wsX0_runBeat wsX0_moveGuest := goodIn_r _ [22, 2, 23, 17, 24, 25, 1, 26, 27, 28, 29, 30, 15, 31, 32, 33, 34, 35, 36, 37, 38, 39, 40, 41, 42, 43, 44, 18, 45, 46, 47, 8, 48, 10, 49, 50, 51, 52, 53, 54, 11, 55, 56, 57, 58, 59, 60, 61, 62, 63, 64, 65, 66, 67, 68, 69, 70, 71, 72, 73, 74, 75, 76, 77, 78, 79, 80, 81, 82, 83, 84, 85, 86, 87, 88, 89, 90, 91, 92, 93, 94, 95, 96, 97, 98, 99, 100, 101, 102, 103, 104, 105, 106, 107, 108, 109, 110] (by decide +kernel) (by decide +kernel)
set_option maxRecDepth 20000 in
theorem gX0_runBeat_X0_moveGuest : GoodIn wsX0_runBeat (wsV RX0 95 RX0 yX0_moveGuest wsX0_moveGuest) := goodIn_app (goodIn_of _ (by decide +kernel)) ggX0_runBeat_X0_moveGuest
theorem dX0_runBeat_0 : decode cX0_runBeat 0 = .ok (.aload_n 0, 1) := by decide +kernel
theorem dX0_runBeat_1 : decode cX0_runBeat 1 = .ok (.getfield 18, 3) := by decide +kernel
theorem dX0_runBeat_4 : decode cX0_runBeat 4 = .ok (.invokevirtual 92, 3) := by decide +kernel
theorem dX0_runBeat_7 : decode cX0_runBeat 7 = .ok (.iconst 0, 1) := by decide +kernel
theorem dX0_runBeat_8 : decode cX0_runBeat 8 = .ok (.istore_n 1, 1) := by decide +kernel
theorem dX0_runBeat_9 : decode cX0_runBeat 9 = .ok (.iload_n 1, 1) := by decide +kernel
theorem dX0_runBeat_10 : decode cX0_runBeat 10 = .ok (.aload_n 0, 1) := by decide +kernel
theorem dX0_runBeat_11 : decode cX0_runBeat 11 = .ok (.getfield 25, 3) := by decide +kernel
theorem dX0_runBeat_14 : decode cX0_runBeat 14 = .ok (.getfield 58, 3) := by decide +kernel
theorem dX0_runBeat_17 : decode cX0_runBeat 17 = .ok (.if_icmp .ge 22, 3) := by decide +kernel
theorem dX0_runBeat_20 : decode cX0_runBeat 20 = .ok (.aload_n 0, 1) := by decide +kernel
theorem dX0_runBeat_21 : decode cX0_runBeat 21 = .ok (.iload_n 1, 1) := by decide +kernel
theorem dX0_runBeat_22 : decode cX0_runBeat 22 = .ok (.invokevirtual 61, 3) := by decide +kernel
theorem dX0_runBeat_25 : decode cX0_runBeat 25 = .ok (.ifCond .ne 8, 3) := by decide +kernel
theorem dX0_runBeat_28 : decode cX0_runBeat 28 = .ok (.aload_n 0, 1) := by decide +kernel
theorem dX0_runBeat_29 : decode cX0_runBeat 29 = .ok (.iload_n 1, 1) := by decide +kernel
theorem dX0_runBeat_30 : decode cX0_runBeat 30 = .ok (.invokevirtual 95, 3) := by decide +kernel
theorem dX0_runBeat_33 : decode cX0_runBeat 33 = .ok (.iinc 1 1, 3) := by decide +kernel
theorem dX0_runBeat_36 : decode cX0_runBeat 36 = .ok (.goto (-27), 3) := by decide +kernel
theorem dX0_runBeat_39 : decode cX0_runBeat 39 = .ok (.aload_n 0, 1) := by decide +kernel
theorem dX0_runBeat_40 : decode cX0_runBeat 40 = .ok (.dup, 1) := by decide +kernel
theorem dX0_runBeat_41 : decode cX0_runBeat 41 = .ok (.getfield 98, 3) := by decide +kernel
theorem dX0_runBeat_44 : decode cX0_runBeat 44 = .ok (.iconst 1, 1) := by decide +kernel
theorem dX0_runBeat_45 : decode cX0_runBeat 45 = .ok (.iadd, 1) := by decide +kernel
theorem dX0_runBeat_46 : decode cX0_runBeat 46 = .ok (.putfield 98, 3) := by decide +kernel
theorem dX0_runBeat_49 : decode cX0_runBeat 49 = .ok (.return_, 1) := by decide +kernel
set_option maxRecDepth 20000 in
theorem ggX0_moveGuest_X0_gateHiss : GoodIn wsX0_moveGuest wsX0_gateHiss := goodIn_r _ [13, 6, 14, 15, 16, 12, 17, 18, 19, 20, 21, 22, 23, 24, 25, 26, 27, 28, 29, 30, 31, 32, 33, 34, 35, 36, 37, 38, 39, 40, 79, 80, 81, 82, 83, 84, 85, 92, 93, 94, 95, 96] (by decide +kernel) (by decide +kernel)
set_option maxRecDepth 20000 in
theorem gX0_moveGuest_X0_gateHiss : GoodIn wsX0_moveGuest (wsV RX0 55 RX0 yX0_gateHiss wsX0_gateHiss) := goodIn_app (goodIn_of _ (by decide +kernel)) ggX0_moveGuest_X0_gateHiss
set_option maxRecDepth 20000 in
theorem ggX0_moveGuest_X1_enrage : GoodIn wsX0_moveGuest wsX1_enrage := goodIn_r _ [44, 33, 34, 45, 46, 21, 47, 35, 36, 37, 31, 38, 39, 40, 92, 93, 94, 95, 96] (by decide +kernel) (by decide +kernel)
set_option maxRecDepth 20000 in
theorem gX0_moveGuest_X1_enrage : GoodIn wsX0_moveGuest (wsV RX0 104 RX1 yX1_enrage wsX1_enrage) := goodIn_app (goodIn_of _ (by decide +kernel)) ggX0_moveGuest_X1_enrage
set_option maxRecDepth 20000 in
theorem ggX0_moveGuest_X1_fiercestAwake : GoodIn wsX0_moveGuest wsX1_fiercestAwake := goodIn_r _ [51, 33, 34, 35, 36, 37, 31, 38, 39, 40, 92, 93, 94, 95, 96] (by decide +kernel) (by decide +kernel)
set_option maxRecDepth 20000 in
theorem gX0_moveGuest_X1_fiercestAwake : GoodIn wsX0_moveGuest (wsV RX0 107 RX1 yX1_fiercestAwake wsX1_fiercestAwake) := goodIn_app (goodIn_of _ (by decide +kernel)) ggX0_moveGuest_X1_fiercestAwake
set_option maxRecDepth 20000 in
theorem ggX0_moveGuest_X1_hasGoose : GoodIn wsX0_moveGuest wsX1_hasGoose := goodIn_r _ [55, 33, 92, 93, 94, 95, 96] (by decide +kernel) (by decide +kernel)
set_option maxRecDepth 20000 in
theorem gX0_moveGuest_X1_hasGoose : GoodIn wsX0_moveGuest (wsV RX0 110 RX1 yX1_hasGoose wsX1_hasGoose) := goodIn_app (goodIn_of _ (by decide +kernel)) ggX0_moveGuest_X1_hasGoose
set_option maxRecDepth 20000 in
theorem ggX0_moveGuest_X0_payGoose : GoodIn wsX0_moveGuest wsX0_payGoose := goodIn_r _ [59, 1, 7, 6, 60, 61, 62, 63, 31, 64, 65, 40, 34, 66, 20, 21, 22, 79, 80, 81, 82, 83, 84, 85, 86, 87, 88, 89, 90, 91, 92, 93, 94, 95, 96] (by decide +kernel) (by decide +kernel)
set_option maxRecDepth 20000 in
theorem gX0_moveGuest_X0_payGoose : GoodIn wsX0_moveGuest (wsV RX0 113 RX0 yX0_payGoose wsX0_payGoose) := goodIn_app (goodIn_of _ (by decide +kernel)) ggX0_moveGuest_X0_payGoose
set_option maxRecDepth 20000 in
theorem ggX0_moveGuest_X3_gradeOfHiss : GoodIn wsX0_moveGuest wsX3_gradeOfHiss := goodIn_r _ [69] (by decide +kernel) (by decide +kernel)
set_option maxRecDepth 20000 in
theorem gX0_moveGuest_X3_gradeOfHiss_n117 : GoodIn wsX0_moveGuest (wsX3_gradeOfHiss) := ggX0_moveGuest_X3_gradeOfHiss
set_option maxRecDepth 20000 in
theorem ggX0_moveGuest_X2_fallBack : GoodIn wsX0_moveGuest wsX2_fallBack := goodIn_r _ [74, 75, 76, 77, 46, 21, 47, 78, 86, 87, 88, 89, 90, 91] (by decide +kernel) (by decide +kernel)
set_option maxRecDepth 20000 in
theorem gX0_moveGuest_X2_fallBack : GoodIn wsX0_moveGuest (wsV RX0 120 RX2 yX2_fallBack wsX2_fallBack) := goodIn_app (goodIn_of _ (by decide +kernel)) ggX0_moveGuest_X2_fallBack
theorem dX0_moveGuest_0 : decode cX0_moveGuest 0 = .ok (.aload_n 0, 1) := by decide +kernel
theorem dX0_moveGuest_1 : decode cX0_moveGuest 1 = .ok (.getfield 25, 3) := by decide +kernel
theorem dX0_moveGuest_4 : decode cX0_moveGuest 4 = .ok (.getfield 101, 3) := by decide +kernel
theorem dX0_moveGuest_7 : decode cX0_moveGuest 7 = .ok (.iload_n 1, 1) := by decide +kernel
theorem dX0_moveGuest_8 : decode cX0_moveGuest 8 = .ok (.iaload, 1) := by decide +kernel
theorem dX0_moveGuest_9 : decode cX0_moveGuest 9 = .ok (.ifCond .le 17, 3) := by decide +kernel
theorem dX0_moveGuest_12 : decode cX0_moveGuest 12 = .ok (.aload_n 0, 1) := by decide +kernel
theorem dX0_moveGuest_13 : decode cX0_moveGuest 13 = .ok (.getfield 25, 3) := by decide +kernel
theorem dX0_moveGuest_16 : decode cX0_moveGuest 16 = .ok (.getfield 101, 3) := by decide +kernel
theorem dX0_moveGuest_19 : decode cX0_moveGuest 19 = .ok (.iload_n 1, 1) := by decide +kernel
theorem dX0_moveGuest_20 : decode cX0_moveGuest 20 = .ok (.dup2, 1) := by decide +kernel
theorem dX0_moveGuest_21 : decode cX0_moveGuest 21 = .ok (.iaload, 1) := by decide +kernel
theorem dX0_moveGuest_22 : decode cX0_moveGuest 22 = .ok (.iconst 1, 1) := by decide +kernel
theorem dX0_moveGuest_23 : decode cX0_moveGuest 23 = .ok (.isub, 1) := by decide +kernel
theorem dX0_moveGuest_24 : decode cX0_moveGuest 24 = .ok (.iastore, 1) := by decide +kernel
theorem dX0_moveGuest_25 : decode cX0_moveGuest 25 = .ok (.return_, 1) := by decide +kernel
theorem dX0_moveGuest_26 : decode cX0_moveGuest 26 = .ok (.aload_n 0, 1) := by decide +kernel
theorem dX0_moveGuest_27 : decode cX0_moveGuest 27 = .ok (.getfield 25, 3) := by decide +kernel
theorem dX0_moveGuest_30 : decode cX0_moveGuest 30 = .ok (.getfield 49, 3) := by decide +kernel
theorem dX0_moveGuest_33 : decode cX0_moveGuest 33 = .ok (.iload_n 1, 1) := by decide +kernel
theorem dX0_moveGuest_34 : decode cX0_moveGuest 34 = .ok (.iaload, 1) := by decide +kernel
theorem dX0_moveGuest_35 : decode cX0_moveGuest 35 = .ok (.istore_n 2, 1) := by decide +kernel
theorem dX0_moveGuest_36 : decode cX0_moveGuest 36 = .ok (.aload_n 0, 1) := by decide +kernel
theorem dX0_moveGuest_37 : decode cX0_moveGuest 37 = .ok (.iload_n 2, 1) := by decide +kernel
theorem dX0_moveGuest_38 : decode cX0_moveGuest 38 = .ok (.aload_n 0, 1) := by decide +kernel
theorem dX0_moveGuest_39 : decode cX0_moveGuest 39 = .ok (.getfield 25, 3) := by decide +kernel
theorem dX0_moveGuest_42 : decode cX0_moveGuest 42 = .ok (.getfield 52, 3) := by decide +kernel
theorem dX0_moveGuest_45 : decode cX0_moveGuest 45 = .ok (.iload_n 1, 1) := by decide +kernel
theorem dX0_moveGuest_46 : decode cX0_moveGuest 46 = .ok (.iaload, 1) := by decide +kernel
theorem dX0_moveGuest_47 : decode cX0_moveGuest 47 = .ok (.invokevirtual 55, 3) := by decide +kernel
theorem dX0_moveGuest_50 : decode cX0_moveGuest 50 = .ok (.istore_n 3, 1) := by decide +kernel
theorem dX0_moveGuest_51 : decode cX0_moveGuest 51 = .ok (.iload_n 3, 1) := by decide +kernel
theorem dX0_moveGuest_52 : decode cX0_moveGuest 52 = .ok (.aload_n 0, 1) := by decide +kernel
theorem dX0_moveGuest_53 : decode cX0_moveGuest 53 = .ok (.getfield 25, 3) := by decide +kernel
theorem dX0_moveGuest_56 : decode cX0_moveGuest 56 = .ok (.getfield 79, 3) := by decide +kernel
theorem dX0_moveGuest_59 : decode cX0_moveGuest 59 = .ok (.iload_n 1, 1) := by decide +kernel
theorem dX0_moveGuest_60 : decode cX0_moveGuest 60 = .ok (.iaload, 1) := by decide +kernel
theorem dX0_moveGuest_61 : decode cX0_moveGuest 61 = .ok (.if_icmp .gt 24, 3) := by decide +kernel
theorem dX0_moveGuest_64 : decode cX0_moveGuest 64 = .ok (.aload_n 0, 1) := by decide +kernel
theorem dX0_moveGuest_65 : decode cX0_moveGuest 65 = .ok (.getfield 25, 3) := by decide +kernel
theorem dX0_moveGuest_68 : decode cX0_moveGuest 68 = .ok (.getfield 49, 3) := by decide +kernel
theorem dX0_moveGuest_71 : decode cX0_moveGuest 71 = .ok (.iload_n 1, 1) := by decide +kernel
theorem dX0_moveGuest_72 : decode cX0_moveGuest 72 = .ok (.iload_n 2, 1) := by decide +kernel
theorem dX0_moveGuest_73 : decode cX0_moveGuest 73 = .ok (.iconst 1, 1) := by decide +kernel
theorem dX0_moveGuest_74 : decode cX0_moveGuest 74 = .ok (.iadd, 1) := by decide +kernel
theorem dX0_moveGuest_75 : decode cX0_moveGuest 75 = .ok (.iastore, 1) := by decide +kernel
theorem dX0_moveGuest_76 : decode cX0_moveGuest 76 = .ok (.aload_n 0, 1) := by decide +kernel
theorem dX0_moveGuest_77 : decode cX0_moveGuest 77 = .ok (.getfield 18, 3) := by decide +kernel
theorem dX0_moveGuest_80 : decode cX0_moveGuest 80 = .ok (.iload_n 2, 1) := by decide +kernel
theorem dX0_moveGuest_81 : decode cX0_moveGuest 81 = .ok (.invokevirtual 104, 3) := by decide +kernel
theorem dX0_moveGuest_84 : decode cX0_moveGuest 84 = .ok (.return_, 1) := by decide +kernel
theorem dX0_moveGuest_85 : decode cX0_moveGuest 85 = .ok (.aload_n 0, 1) := by decide +kernel
theorem dX0_moveGuest_86 : decode cX0_moveGuest 86 = .ok (.getfield 18, 3) := by decide +kernel
theorem dX0_moveGuest_89 : decode cX0_moveGuest 89 = .ok (.iload_n 2, 1) := by decide +kernel
theorem dX0_moveGuest_90 : decode cX0_moveGuest 90 = .ok (.invokevirtual 107, 3) := by decide +kernel
theorem dX0_moveGuest_93 : decode cX0_moveGuest 93 = .ok (.istore 4, 2) := by decide +kernel
theorem dX0_moveGuest_95 : decode cX0_moveGuest 95 = .ok (.aload_n 0, 1) := by decide +kernel
theorem dX0_moveGuest_96 : decode cX0_moveGuest 96 = .ok (.getfield 25, 3) := by decide +kernel
theorem dX0_moveGuest_99 : decode cX0_moveGuest 99 = .ok (.getfield 64, 3) := by decide +kernel
theorem dX0_moveGuest_102 : decode cX0_moveGuest 102 = .ok (.iload_n 1, 1) := by decide +kernel
theorem dX0_moveGuest_103 : decode cX0_moveGuest 103 = .ok (.iaload, 1) := by decide +kernel
theorem dX0_moveGuest_104 : decode cX0_moveGuest 104 = .ok (.ifCond .le 25, 3) := by decide +kernel
theorem dX0_moveGuest_107 : decode cX0_moveGuest 107 = .ok (.aload_n 0, 1) := by decide +kernel
theorem dX0_moveGuest_108 : decode cX0_moveGuest 108 = .ok (.getfield 18, 3) := by decide +kernel
theorem dX0_moveGuest_111 : decode cX0_moveGuest 111 = .ok (.iload 4, 2) := by decide +kernel
theorem dX0_moveGuest_113 : decode cX0_moveGuest 113 = .ok (.invokevirtual 110, 3) := by decide +kernel
theorem dX0_moveGuest_116 : decode cX0_moveGuest 116 = .ok (.ifCond .eq 13, 3) := by decide +kernel
theorem dX0_moveGuest_119 : decode cX0_moveGuest 119 = .ok (.aload_n 0, 1) := by decide +kernel
theorem dX0_moveGuest_120 : decode cX0_moveGuest 120 = .ok (.iload_n 1, 1) := by decide +kernel
theorem dX0_moveGuest_121 : decode cX0_moveGuest 121 = .ok (.iload 4, 2) := by decide +kernel
theorem dX0_moveGuest_123 : decode cX0_moveGuest 123 = .ok (.invokevirtual 113, 3) := by decide +kernel
theorem dX0_moveGuest_126 : decode cX0_moveGuest 126 = .ok (.goto 25, 3) := by decide +kernel
theorem dX0_moveGuest_129 : decode cX0_moveGuest 129 = .ok (.aload_n 0, 1) := by decide +kernel
theorem dX0_moveGuest_130 : decode cX0_moveGuest 130 = .ok (.getfield 25, 3) := by decide +kernel
theorem dX0_moveGuest_133 : decode cX0_moveGuest 133 = .ok (.iload_n 1, 1) := by decide +kernel
theorem dX0_moveGuest_134 : decode cX0_moveGuest 134 = .ok (.iload_n 3, 1) := by decide +kernel
theorem dX0_moveGuest_135 : decode cX0_moveGuest 135 = .ok (.invokestatic 117, 3) := by decide +kernel
theorem dX0_moveGuest_138 : decode cX0_moveGuest 138 = .ok (.invokevirtual 120, 3) := by decide +kernel
theorem dX0_moveGuest_141 : decode cX0_moveGuest 141 = .ok (.aload_n 0, 1) := by decide +kernel
theorem dX0_moveGuest_142 : decode cX0_moveGuest 142 = .ok (.dup, 1) := by decide +kernel
theorem dX0_moveGuest_143 : decode cX0_moveGuest 143 = .ok (.getfield 123, 3) := by decide +kernel
theorem dX0_moveGuest_146 : decode cX0_moveGuest 146 = .ok (.iconst 1, 1) := by decide +kernel
theorem dX0_moveGuest_147 : decode cX0_moveGuest 147 = .ok (.iadd, 1) := by decide +kernel
theorem dX0_moveGuest_148 : decode cX0_moveGuest 148 = .ok (.putfield 123, 3) := by decide +kernel
theorem dX0_moveGuest_151 : decode cX0_moveGuest 151 = .ok (.return_, 1) := by decide +kernel
set_option maxRecDepth 20000 in
theorem ggX0_beatsToFarm_X0_isBehindAll : GoodIn wsX0_beatsToFarm wsX0_isBehindAll := goodIn_r _ [5, 6, 7, 8, 97, 98, 99, 100, 101, 102, 103, 104, 105, 106, 107, 108, 109] (by decide +kernel) (by decide +kernel)
set_option maxRecDepth 20000 in
theorem gX0_beatsToFarm_X0_isBehindAll : GoodIn wsX0_beatsToFarm (wsV RX0 61 RX0 yX0_isBehindAll wsX0_isBehindAll) := goodIn_app (goodIn_of _ (by decide +kernel)) ggX0_beatsToFarm_X0_isBehindAll
set_option maxRecDepth 20000 in
theorem ggX0_beatsToFarm_X0_runBeat : GoodIn wsX0_beatsToFarm wsX0_runBeat := goodIn_r _ [12, 13, 6, 14, 15, 16, 17, 18, 19, 20, 21, 22, 1, 2, 3, 4, 5, 7, 8, 23, 24, 25, 26, 27, 28, 29, 30, 31, 32, 33, 34, 35, 36, 37, 38, 39, 40, 41, 42, 43, 44, 45, 46, 47, 48, 49, 50, 51, 52, 53, 54, 55, 56, 57, 58, 59, 60, 61, 62, 63, 64, 65, 66, 67, 68, 69, 70, 71, 72, 73, 74, 75, 76, 77, 78, 79, 80, 81, 82, 83, 84, 85, 86, 87, 88, 89, 90, 91, 92, 93, 94, 95, 96, 97, 98, 99, 100, 101, 102, 103, 104, 105, 106, 107, 108, 109, 110, 111, 112, 113, 114] (by decide +kernel) (by decide +kernel)
set_option maxRecDepth 20000 in
theorem gX0_beatsToFarm_X0_runBeat : GoodIn wsX0_beatsToFarm (wsV RX0 89 RX0 yX0_runBeat wsX0_runBeat) := goodIn_app (goodIn_of _ (by decide +kernel)) ggX0_beatsToFarm_X0_runBeat
theorem dX0_beatsToFarm_0 : decode cX0_beatsToFarm 0 = .ok (.iconst 0, 1) := by decide +kernel
theorem dX0_beatsToFarm_1 : decode cX0_beatsToFarm 1 = .ok (.istore_n 3, 1) := by decide +kernel
theorem dX0_beatsToFarm_2 : decode cX0_beatsToFarm 2 = .ok (.iload_n 3, 1) := by decide +kernel
theorem dX0_beatsToFarm_3 : decode cX0_beatsToFarm 3 = .ok (.iload_n 2, 1) := by decide +kernel
theorem dX0_beatsToFarm_4 : decode cX0_beatsToFarm 4 = .ok (.if_icmp .ge 21, 3) := by decide +kernel
theorem dX0_beatsToFarm_7 : decode cX0_beatsToFarm 7 = .ok (.aload_n 0, 1) := by decide +kernel
theorem dX0_beatsToFarm_8 : decode cX0_beatsToFarm 8 = .ok (.iload_n 1, 1) := by decide +kernel
theorem dX0_beatsToFarm_9 : decode cX0_beatsToFarm 9 = .ok (.invokevirtual 61, 3) := by decide +kernel
theorem dX0_beatsToFarm_12 : decode cX0_beatsToFarm 12 = .ok (.ifCond .ne 13, 3) := by decide +kernel
theorem dX0_beatsToFarm_15 : decode cX0_beatsToFarm 15 = .ok (.aload_n 0, 1) := by decide +kernel
theorem dX0_beatsToFarm_16 : decode cX0_beatsToFarm 16 = .ok (.invokevirtual 89, 3) := by decide +kernel
theorem dX0_beatsToFarm_19 : decode cX0_beatsToFarm 19 = .ok (.iinc 3 1, 3) := by decide +kernel
theorem dX0_beatsToFarm_22 : decode cX0_beatsToFarm 22 = .ok (.goto (-20), 3) := by decide +kernel
theorem dX0_beatsToFarm_25 : decode cX0_beatsToFarm 25 = .ok (.aload_n 0, 1) := by decide +kernel
theorem dX0_beatsToFarm_26 : decode cX0_beatsToFarm 26 = .ok (.iload_n 1, 1) := by decide +kernel
theorem dX0_beatsToFarm_27 : decode cX0_beatsToFarm 27 = .ok (.invokevirtual 61, 3) := by decide +kernel
theorem dX0_beatsToFarm_30 : decode cX0_beatsToFarm 30 = .ok (.ifCond .eq 7, 3) := by decide +kernel
theorem dX0_beatsToFarm_33 : decode cX0_beatsToFarm 33 = .ok (.iload_n 3, 1) := by decide +kernel
theorem dX0_beatsToFarm_34 : decode cX0_beatsToFarm 34 = .ok (.goto 4, 3) := by decide +kernel
theorem dX0_beatsToFarm_37 : decode cX0_beatsToFarm 37 = .ok (.iconst (-1), 1) := by decide +kernel
theorem dX0_beatsToFarm_38 : decode cX0_beatsToFarm 38 = .ok (.ireturn, 1) := by decide +kernel
set_option maxRecDepth 20000 in
theorem ggX0_copyFrom_X1_copyFrom : GoodIn wsX0_copyFrom wsX1_copyFrom := goodIn_r _ [16, 17, 18, 19, 4, 5, 6, 20, 21, 22, 42, 43, 44, 45, 46] (by decide +kernel) (by decide +kernel)
set_option maxRecDepth 20000 in
theorem gX0_copyFrom_X1_copyFrom : GoodIn wsX0_copyFrom (wsV RX0 132 RX1 yX1_copyFrom wsX1_copyFrom) := goodIn_app (goodIn_of _ (by decide +kernel)) ggX0_copyFrom_X1_copyFrom
set_option maxRecDepth 20000 in
theorem ggX0_copyFrom_X2_copyFrom : GoodIn wsX0_copyFrom wsX2_copyFrom := goodIn_r _ [27, 28, 29, 30, 4, 5, 6, 31, 32, 33, 34, 47, 48, 49, 50, 51, 52] (by decide +kernel) (by decide +kernel)
set_option maxRecDepth 20000 in
theorem gX0_copyFrom_X2_copyFrom : GoodIn wsX0_copyFrom (wsV RX0 136 RX2 yX2_copyFrom wsX2_copyFrom) := goodIn_app (goodIn_of _ (by decide +kernel)) ggX0_copyFrom_X2_copyFrom
theorem dX0_copyFrom_0 : decode cX0_copyFrom 0 = .ok (.aload_n 0, 1) := by decide +kernel
theorem dX0_copyFrom_1 : decode cX0_copyFrom 1 = .ok (.aload_n 1, 1) := by decide +kernel
theorem dX0_copyFrom_2 : decode cX0_copyFrom 2 = .ok (.getfield 29, 3) := by decide +kernel
theorem dX0_copyFrom_5 : decode cX0_copyFrom 5 = .ok (.putfield 29, 3) := by decide +kernel
theorem dX0_copyFrom_8 : decode cX0_copyFrom 8 = .ok (.aload_n 1, 1) := by decide +kernel
theorem dX0_copyFrom_9 : decode cX0_copyFrom 9 = .ok (.getfield 9, 3) := by decide +kernel
theorem dX0_copyFrom_12 : decode cX0_copyFrom 12 = .ok (.iconst 0, 1) := by decide +kernel
theorem dX0_copyFrom_13 : decode cX0_copyFrom 13 = .ok (.aload_n 0, 1) := by decide +kernel
theorem dX0_copyFrom_14 : decode cX0_copyFrom 14 = .ok (.getfield 9, 3) := by decide +kernel
theorem dX0_copyFrom_17 : decode cX0_copyFrom 17 = .ok (.iconst 0, 1) := by decide +kernel
theorem dX0_copyFrom_18 : decode cX0_copyFrom 18 = .ok (.bipush 6, 2) := by decide +kernel
theorem dX0_copyFrom_20 : decode cX0_copyFrom 20 = .ok (.invokestatic 126, 3) := by decide +kernel
theorem dX0_copyFrom_23 : decode cX0_copyFrom 23 = .ok (.aload_n 0, 1) := by decide +kernel
theorem dX0_copyFrom_24 : decode cX0_copyFrom 24 = .ok (.getfield 18, 3) := by decide +kernel
theorem dX0_copyFrom_27 : decode cX0_copyFrom 27 = .ok (.aload_n 1, 1) := by decide +kernel
theorem dX0_copyFrom_28 : decode cX0_copyFrom 28 = .ok (.getfield 18, 3) := by decide +kernel
theorem dX0_copyFrom_31 : decode cX0_copyFrom 31 = .ok (.invokevirtual 132, 3) := by decide +kernel
theorem dX0_copyFrom_34 : decode cX0_copyFrom 34 = .ok (.aload_n 0, 1) := by decide +kernel
theorem dX0_copyFrom_35 : decode cX0_copyFrom 35 = .ok (.getfield 25, 3) := by decide +kernel
theorem dX0_copyFrom_38 : decode cX0_copyFrom 38 = .ok (.aload_n 1, 1) := by decide +kernel
theorem dX0_copyFrom_39 : decode cX0_copyFrom 39 = .ok (.getfield 25, 3) := by decide +kernel
theorem dX0_copyFrom_42 : decode cX0_copyFrom 42 = .ok (.invokevirtual 136, 3) := by decide +kernel
theorem dX0_copyFrom_45 : decode cX0_copyFrom 45 = .ok (.aload_n 0, 1) := by decide +kernel
theorem dX0_copyFrom_46 : decode cX0_copyFrom 46 = .ok (.aload_n 1, 1) := by decide +kernel
theorem dX0_copyFrom_47 : decode cX0_copyFrom 47 = .ok (.getfield 98, 3) := by decide +kernel
theorem dX0_copyFrom_50 : decode cX0_copyFrom 50 = .ok (.putfield 98, 3) := by decide +kernel
theorem dX0_copyFrom_53 : decode cX0_copyFrom 53 = .ok (.aload_n 0, 1) := by decide +kernel
theorem dX0_copyFrom_54 : decode cX0_copyFrom 54 = .ok (.aload_n 1, 1) := by decide +kernel
theorem dX0_copyFrom_55 : decode cX0_copyFrom 55 = .ok (.getfield 71, 3) := by decide +kernel
theorem dX0_copyFrom_58 : decode cX0_copyFrom 58 = .ok (.putfield 71, 3) := by decide +kernel
theorem dX0_copyFrom_61 : decode cX0_copyFrom 61 = .ok (.aload_n 0, 1) := by decide +kernel
theorem dX0_copyFrom_62 : decode cX0_copyFrom 62 = .ok (.aload_n 1, 1) := by decide +kernel
theorem dX0_copyFrom_63 : decode cX0_copyFrom 63 = .ok (.getfield 123, 3) := by decide +kernel
theorem dX0_copyFrom_66 : decode cX0_copyFrom 66 = .ok (.putfield 123, 3) := by decide +kernel
theorem dX0_copyFrom_69 : decode cX0_copyFrom 69 = .ok (.return_, 1) := by decide +kernel
theorem dX1_init_0 : decode cX1_init 0 = .ok (.aload_n 0, 1) := by decide +kernel
theorem dX1_init_1 : decode cX1_init 1 = .ok (.invokespecial 3, 3) := by decide +kernel
theorem dX1_init_4 : decode cX1_init 4 = .ok (.aload_n 0, 1) := by decide +kernel
theorem dX1_init_5 : decode cX1_init 5 = .ok (.bipush 8, 2) := by decide +kernel
theorem dX1_init_7 : decode cX1_init 7 = .ok (.newarray .int, 2) := by decide +kernel
theorem dX1_init_9 : decode cX1_init 9 = .ok (.putfield 9, 3) := by decide +kernel
theorem dX1_init_12 : decode cX1_init 12 = .ok (.aload_n 0, 1) := by decide +kernel
theorem dX1_init_13 : decode cX1_init 13 = .ok (.bipush 8, 2) := by decide +kernel
theorem dX1_init_15 : decode cX1_init 15 = .ok (.newarray .int, 2) := by decide +kernel
theorem dX1_init_17 : decode cX1_init 17 = .ok (.putfield 15, 3) := by decide +kernel
theorem dX1_init_20 : decode cX1_init 20 = .ok (.aload_n 0, 1) := by decide +kernel
theorem dX1_init_21 : decode cX1_init 21 = .ok (.bipush 8, 2) := by decide +kernel
theorem dX1_init_23 : decode cX1_init 23 = .ok (.newarray .int, 2) := by decide +kernel
theorem dX1_init_25 : decode cX1_init 25 = .ok (.putfield 18, 3) := by decide +kernel
theorem dX1_init_28 : decode cX1_init 28 = .ok (.aload_n 0, 1) := by decide +kernel
theorem dX1_init_29 : decode cX1_init 29 = .ok (.bipush 8, 2) := by decide +kernel
theorem dX1_init_31 : decode cX1_init 31 = .ok (.newarray .int, 2) := by decide +kernel
theorem dX1_init_33 : decode cX1_init 33 = .ok (.putfield 21, 3) := by decide +kernel
theorem dX1_init_36 : decode cX1_init 36 = .ok (.return_, 1) := by decide +kernel
theorem dX1_hasGoose_0 : decode cX1_hasGoose 0 = .ok (.iload_n 1, 1) := by decide +kernel
theorem dX1_hasGoose_1 : decode cX1_hasGoose 1 = .ok (.ifCond .lt 15, 3) := by decide +kernel
theorem dX1_hasGoose_4 : decode cX1_hasGoose 4 = .ok (.iload_n 1, 1) := by decide +kernel
theorem dX1_hasGoose_5 : decode cX1_hasGoose 5 = .ok (.aload_n 0, 1) := by decide +kernel
theorem dX1_hasGoose_6 : decode cX1_hasGoose 6 = .ok (.getfield 24, 3) := by decide +kernel
theorem dX1_hasGoose_9 : decode cX1_hasGoose 9 = .ok (.if_icmp .ge 7, 3) := by decide +kernel
theorem dX1_hasGoose_12 : decode cX1_hasGoose 12 = .ok (.iconst 1, 1) := by decide +kernel
theorem dX1_hasGoose_13 : decode cX1_hasGoose 13 = .ok (.goto 4, 3) := by decide +kernel
theorem dX1_hasGoose_16 : decode cX1_hasGoose 16 = .ok (.iconst 0, 1) := by decide +kernel
theorem dX1_hasGoose_17 : decode cX1_hasGoose 17 = .ok (.ireturn, 1) := by decide +kernel
theorem dX1_putGoose_0 : decode cX1_putGoose 0 = .ok (.aload_n 0, 1) := by decide +kernel
theorem dX1_putGoose_1 : decode cX1_putGoose 1 = .ok (.getfield 24, 3) := by decide +kernel
theorem dX1_putGoose_4 : decode cX1_putGoose 4 = .ok (.istore_n 3, 1) := by decide +kernel
theorem dX1_putGoose_5 : decode cX1_putGoose 5 = .ok (.aload_n 0, 1) := by decide +kernel
theorem dX1_putGoose_6 : decode cX1_putGoose 6 = .ok (.getfield 9, 3) := by decide +kernel
theorem dX1_putGoose_9 : decode cX1_putGoose 9 = .ok (.iload_n 3, 1) := by decide +kernel
theorem dX1_putGoose_10 : decode cX1_putGoose 10 = .ok (.iload_n 1, 1) := by decide +kernel
theorem dX1_putGoose_11 : decode cX1_putGoose 11 = .ok (.iastore, 1) := by decide +kernel
theorem dX1_putGoose_12 : decode cX1_putGoose 12 = .ok (.aload_n 0, 1) := by decide +kernel
theorem dX1_putGoose_13 : decode cX1_putGoose 13 = .ok (.getfield 15, 3) := by decide +kernel
theorem dX1_putGoose_16 : decode cX1_putGoose 16 = .ok (.iload_n 3, 1) := by decide +kernel
theorem dX1_putGoose_17 : decode cX1_putGoose 17 = .ok (.iload_n 2, 1) := by decide +kernel
theorem dX1_putGoose_18 : decode cX1_putGoose 18 = .ok (.iastore, 1) := by decide +kernel
theorem dX1_putGoose_19 : decode cX1_putGoose 19 = .ok (.aload_n 0, 1) := by decide +kernel
theorem dX1_putGoose_20 : decode cX1_putGoose 20 = .ok (.dup, 1) := by decide +kernel
theorem dX1_putGoose_21 : decode cX1_putGoose 21 = .ok (.getfield 24, 3) := by decide +kernel
theorem dX1_putGoose_24 : decode cX1_putGoose 24 = .ok (.iconst 1, 1) := by decide +kernel
theorem dX1_putGoose_25 : decode cX1_putGoose 25 = .ok (.iadd, 1) := by decide +kernel
theorem dX1_putGoose_26 : decode cX1_putGoose 26 = .ok (.putfield 24, 3) := by decide +kernel
theorem dX1_putGoose_29 : decode cX1_putGoose 29 = .ok (.iload_n 3, 1) := by decide +kernel
theorem dX1_putGoose_30 : decode cX1_putGoose 30 = .ok (.ireturn, 1) := by decide +kernel
theorem dX1_isAwakeThere_0 : decode cX1_isAwakeThere 0 = .ok (.aload_n 0, 1) := by decide +kernel
theorem dX1_isAwakeThere_1 : decode cX1_isAwakeThere 1 = .ok (.getfield 9, 3) := by decide +kernel
theorem dX1_isAwakeThere_4 : decode cX1_isAwakeThere 4 = .ok (.iload_n 1, 1) := by decide +kernel
theorem dX1_isAwakeThere_5 : decode cX1_isAwakeThere 5 = .ok (.iaload, 1) := by decide +kernel
theorem dX1_isAwakeThere_6 : decode cX1_isAwakeThere 6 = .ok (.iload_n 2, 1) := by decide +kernel
theorem dX1_isAwakeThere_7 : decode cX1_isAwakeThere 7 = .ok (.if_icmp .ne 16, 3) := by decide +kernel
theorem dX1_isAwakeThere_10 : decode cX1_isAwakeThere 10 = .ok (.aload_n 0, 1) := by decide +kernel
theorem dX1_isAwakeThere_11 : decode cX1_isAwakeThere 11 = .ok (.getfield 18, 3) := by decide +kernel
theorem dX1_isAwakeThere_14 : decode cX1_isAwakeThere 14 = .ok (.iload_n 1, 1) := by decide +kernel
theorem dX1_isAwakeThere_15 : decode cX1_isAwakeThere 15 = .ok (.iaload, 1) := by decide +kernel
theorem dX1_isAwakeThere_16 : decode cX1_isAwakeThere 16 = .ok (.ifCond .ne 7, 3) := by decide +kernel
theorem dX1_isAwakeThere_19 : decode cX1_isAwakeThere 19 = .ok (.iconst 1, 1) := by decide +kernel
theorem dX1_isAwakeThere_20 : decode cX1_isAwakeThere 20 = .ok (.goto 4, 3) := by decide +kernel
theorem dX1_isAwakeThere_23 : decode cX1_isAwakeThere 23 = .ok (.iconst 0, 1) := by decide +kernel
theorem dX1_isAwakeThere_24 : decode cX1_isAwakeThere 24 = .ok (.ireturn, 1) := by decide +kernel
set_option maxRecDepth 20000 in
theorem ggX1_countAwake_X1_isAwakeThere : GoodIn wsX1_countAwake wsX1_isAwakeThere := goodIn_r _ [6, 7, 8, 9, 10, 11, 12, 13] (by decide +kernel) (by decide +kernel)
set_option maxRecDepth 20000 in
theorem gX1_countAwake_X1_isAwakeThere : GoodIn wsX1_countAwake (wsV RX1 28 RX1 yX1_isAwakeThere wsX1_isAwakeThere) := goodIn_app (goodIn_of _ (by decide +kernel)) ggX1_countAwake_X1_isAwakeThere
theorem dX1_countAwake_0 : decode cX1_countAwake 0 = .ok (.iconst 0, 1) := by decide +kernel
theorem dX1_countAwake_1 : decode cX1_countAwake 1 = .ok (.istore_n 2, 1) := by decide +kernel
theorem dX1_countAwake_2 : decode cX1_countAwake 2 = .ok (.iconst 0, 1) := by decide +kernel
theorem dX1_countAwake_3 : decode cX1_countAwake 3 = .ok (.istore_n 3, 1) := by decide +kernel
theorem dX1_countAwake_4 : decode cX1_countAwake 4 = .ok (.iload_n 3, 1) := by decide +kernel
theorem dX1_countAwake_5 : decode cX1_countAwake 5 = .ok (.aload_n 0, 1) := by decide +kernel
theorem dX1_countAwake_6 : decode cX1_countAwake 6 = .ok (.getfield 24, 3) := by decide +kernel
theorem dX1_countAwake_9 : decode cX1_countAwake 9 = .ok (.if_icmp .ge 21, 3) := by decide +kernel
theorem dX1_countAwake_12 : decode cX1_countAwake 12 = .ok (.aload_n 0, 1) := by decide +kernel
theorem dX1_countAwake_13 : decode cX1_countAwake 13 = .ok (.iload_n 3, 1) := by decide +kernel
theorem dX1_countAwake_14 : decode cX1_countAwake 14 = .ok (.iload_n 1, 1) := by decide +kernel
theorem dX1_countAwake_15 : decode cX1_countAwake 15 = .ok (.invokevirtual 28, 3) := by decide +kernel
theorem dX1_countAwake_18 : decode cX1_countAwake 18 = .ok (.ifCond .eq 6, 3) := by decide +kernel
theorem dX1_countAwake_21 : decode cX1_countAwake 21 = .ok (.iinc 2 1, 3) := by decide +kernel
theorem dX1_countAwake_24 : decode cX1_countAwake 24 = .ok (.iinc 3 1, 3) := by decide +kernel
theorem dX1_countAwake_27 : decode cX1_countAwake 27 = .ok (.goto (-23), 3) := by decide +kernel
theorem dX1_countAwake_30 : decode cX1_countAwake 30 = .ok (.iload_n 2, 1) := by decide +kernel
theorem dX1_countAwake_31 : decode cX1_countAwake 31 = .ok (.ireturn, 1) := by decide +kernel
set_option maxRecDepth 20000 in
theorem ggX1_hissThere_X1_isAwakeThere : GoodIn wsX1_hissThere wsX1_isAwakeThere := goodIn_r _ [7, 8, 9, 10, 11, 12, 13, 14] (by decide +kernel) (by decide +kernel)
set_option maxRecDepth 20000 in
theorem gX1_hissThere_X1_isAwakeThere : GoodIn wsX1_hissThere (wsV RX1 28 RX1 yX1_isAwakeThere wsX1_isAwakeThere) := goodIn_app (goodIn_of _ (by decide +kernel)) ggX1_hissThere_X1_isAwakeThere
theorem dX1_hissThere_0 : decode cX1_hissThere 0 = .ok (.iconst 0, 1) := by decide +kernel
theorem dX1_hissThere_1 : decode cX1_hissThere 1 = .ok (.istore_n 3, 1) := by decide +kernel
theorem dX1_hissThere_2 : decode cX1_hissThere 2 = .ok (.iconst 0, 1) := by decide +kernel
theorem dX1_hissThere_3 : decode cX1_hissThere 3 = .ok (.istore 4, 2) := by decide +kernel
theorem dX1_hissThere_5 : decode cX1_hissThere 5 = .ok (.iload 4, 2) := by decide +kernel
theorem dX1_hissThere_7 : decode cX1_hissThere 7 = .ok (.aload_n 0, 1) := by decide +kernel
theorem dX1_hissThere_8 : decode cX1_hissThere 8 = .ok (.getfield 24, 3) := by decide +kernel
theorem dX1_hissThere_11 : decode cX1_hissThere 11 = .ok (.if_icmp .ge 31, 3) := by decide +kernel
theorem dX1_hissThere_14 : decode cX1_hissThere 14 = .ok (.aload_n 0, 1) := by decide +kernel
theorem dX1_hissThere_15 : decode cX1_hissThere 15 = .ok (.iload 4, 2) := by decide +kernel
theorem dX1_hissThere_17 : decode cX1_hissThere 17 = .ok (.iload_n 1, 1) := by decide +kernel
theorem dX1_hissThere_18 : decode cX1_hissThere 18 = .ok (.invokevirtual 28, 3) := by decide +kernel
theorem dX1_hissThere_21 : decode cX1_hissThere 21 = .ok (.ifCond .eq 15, 3) := by decide +kernel
theorem dX1_hissThere_24 : decode cX1_hissThere 24 = .ok (.iload_n 3, 1) := by decide +kernel
theorem dX1_hissThere_25 : decode cX1_hissThere 25 = .ok (.aload_n 0, 1) := by decide +kernel
theorem dX1_hissThere_26 : decode cX1_hissThere 26 = .ok (.getfield 15, 3) := by decide +kernel
theorem dX1_hissThere_29 : decode cX1_hissThere 29 = .ok (.iload 4, 2) := by decide +kernel
theorem dX1_hissThere_31 : decode cX1_hissThere 31 = .ok (.iaload, 1) := by decide +kernel
theorem dX1_hissThere_32 : decode cX1_hissThere 32 = .ok (.iload_n 2, 1) := by decide +kernel
theorem dX1_hissThere_33 : decode cX1_hissThere 33 = .ok (.iadd, 1) := by decide +kernel
theorem dX1_hissThere_34 : decode cX1_hissThere 34 = .ok (.iadd, 1) := by decide +kernel
theorem dX1_hissThere_35 : decode cX1_hissThere 35 = .ok (.istore_n 3, 1) := by decide +kernel
theorem dX1_hissThere_36 : decode cX1_hissThere 36 = .ok (.iinc 4 1, 3) := by decide +kernel
theorem dX1_hissThere_39 : decode cX1_hissThere 39 = .ok (.goto (-34), 3) := by decide +kernel
theorem dX1_hissThere_42 : decode cX1_hissThere 42 = .ok (.iload_n 3, 1) := by decide +kernel
theorem dX1_hissThere_43 : decode cX1_hissThere 43 = .ok (.ireturn, 1) := by decide +kernel
set_option maxRecDepth 20000 in
theorem ggX1_fiercestAwake_X1_isAwakeThere : GoodIn wsX1_fiercestAwake wsX1_isAwakeThere := goodIn_r _ [7, 8, 9, 10, 11, 12, 13, 14] (by decide +kernel) (by decide +kernel)
set_option maxRecDepth 20000 in
theorem gX1_fiercestAwake_X1_isAwakeThere : GoodIn wsX1_fiercestAwake (wsV RX1 28 RX1 yX1_isAwakeThere wsX1_isAwakeThere) := goodIn_app (goodIn_of _ (by decide +kernel)) ggX1_fiercestAwake_X1_isAwakeThere
theorem dX1_fiercestAwake_0 : decode cX1_fiercestAwake 0 = .ok (.iconst (-1), 1) := by decide +kernel
theorem dX1_fiercestAwake_1 : decode cX1_fiercestAwake 1 = .ok (.istore_n 2, 1) := by decide +kernel
theorem dX1_fiercestAwake_2 : decode cX1_fiercestAwake 2 = .ok (.iconst 0, 1) := by decide +kernel
theorem dX1_fiercestAwake_3 : decode cX1_fiercestAwake 3 = .ok (.istore_n 3, 1) := by decide +kernel
theorem dX1_fiercestAwake_4 : decode cX1_fiercestAwake 4 = .ok (.iconst 0, 1) := by decide +kernel
theorem dX1_fiercestAwake_5 : decode cX1_fiercestAwake 5 = .ok (.istore 4, 2) := by decide +kernel
theorem dX1_fiercestAwake_7 : decode cX1_fiercestAwake 7 = .ok (.iload 4, 2) := by decide +kernel
theorem dX1_fiercestAwake_9 : decode cX1_fiercestAwake 9 = .ok (.aload_n 0, 1) := by decide +kernel
theorem dX1_fiercestAwake_10 : decode cX1_fiercestAwake 10 = .ok (.getfield 24, 3) := by decide +kernel
theorem dX1_fiercestAwake_13 : decode cX1_fiercestAwake 13 = .ok (.if_icmp .ge 41, 3) := by decide +kernel
theorem dX1_fiercestAwake_16 : decode cX1_fiercestAwake 16 = .ok (.aload_n 0, 1) := by decide +kernel
theorem dX1_fiercestAwake_17 : decode cX1_fiercestAwake 17 = .ok (.iload 4, 2) := by decide +kernel
theorem dX1_fiercestAwake_19 : decode cX1_fiercestAwake 19 = .ok (.iload_n 1, 1) := by decide +kernel
theorem dX1_fiercestAwake_20 : decode cX1_fiercestAwake 20 = .ok (.invokevirtual 28, 3) := by decide +kernel
theorem dX1_fiercestAwake_23 : decode cX1_fiercestAwake 23 = .ok (.ifCond .eq 25, 3) := by decide +kernel
theorem dX1_fiercestAwake_26 : decode cX1_fiercestAwake 26 = .ok (.aload_n 0, 1) := by decide +kernel
theorem dX1_fiercestAwake_27 : decode cX1_fiercestAwake 27 = .ok (.getfield 15, 3) := by decide +kernel
theorem dX1_fiercestAwake_30 : decode cX1_fiercestAwake 30 = .ok (.iload 4, 2) := by decide +kernel
theorem dX1_fiercestAwake_32 : decode cX1_fiercestAwake 32 = .ok (.iaload, 1) := by decide +kernel
theorem dX1_fiercestAwake_33 : decode cX1_fiercestAwake 33 = .ok (.iload_n 3, 1) := by decide +kernel
theorem dX1_fiercestAwake_34 : decode cX1_fiercestAwake 34 = .ok (.if_icmp .le 14, 3) := by decide +kernel
theorem dX1_fiercestAwake_37 : decode cX1_fiercestAwake 37 = .ok (.aload_n 0, 1) := by decide +kernel
theorem dX1_fiercestAwake_38 : decode cX1_fiercestAwake 38 = .ok (.getfield 15, 3) := by decide +kernel
theorem dX1_fiercestAwake_41 : decode cX1_fiercestAwake 41 = .ok (.iload 4, 2) := by decide +kernel
theorem dX1_fiercestAwake_43 : decode cX1_fiercestAwake 43 = .ok (.iaload, 1) := by decide +kernel
theorem dX1_fiercestAwake_44 : decode cX1_fiercestAwake 44 = .ok (.istore_n 3, 1) := by decide +kernel
theorem dX1_fiercestAwake_45 : decode cX1_fiercestAwake 45 = .ok (.iload 4, 2) := by decide +kernel
theorem dX1_fiercestAwake_47 : decode cX1_fiercestAwake 47 = .ok (.istore_n 2, 1) := by decide +kernel
theorem dX1_fiercestAwake_48 : decode cX1_fiercestAwake 48 = .ok (.iinc 4 1, 3) := by decide +kernel
theorem dX1_fiercestAwake_51 : decode cX1_fiercestAwake 51 = .ok (.goto (-44), 3) := by decide +kernel
theorem dX1_fiercestAwake_54 : decode cX1_fiercestAwake 54 = .ok (.iload_n 2, 1) := by decide +kernel
theorem dX1_fiercestAwake_55 : decode cX1_fiercestAwake 55 = .ok (.ireturn, 1) := by decide +kernel
theorem dX1_feed_0 : decode cX1_feed 0 = .ok (.aload_n 0, 1) := by decide +kernel
theorem dX1_feed_1 : decode cX1_feed 1 = .ok (.getfield 21, 3) := by decide +kernel
theorem dX1_feed_4 : decode cX1_feed 4 = .ok (.iload_n 1, 1) := by decide +kernel
theorem dX1_feed_5 : decode cX1_feed 5 = .ok (.dup2, 1) := by decide +kernel
theorem dX1_feed_6 : decode cX1_feed 6 = .ok (.iaload, 1) := by decide +kernel
theorem dX1_feed_7 : decode cX1_feed 7 = .ok (.iconst 1, 1) := by decide +kernel
theorem dX1_feed_8 : decode cX1_feed 8 = .ok (.iadd, 1) := by decide +kernel
theorem dX1_feed_9 : decode cX1_feed 9 = .ok (.iastore, 1) := by decide +kernel
theorem dX1_feed_10 : decode cX1_feed 10 = .ok (.aload_n 0, 1) := by decide +kernel
theorem dX1_feed_11 : decode cX1_feed 11 = .ok (.getfield 18, 3) := by decide +kernel
theorem dX1_feed_14 : decode cX1_feed 14 = .ok (.iload_n 1, 1) := by decide +kernel
theorem dX1_feed_15 : decode cX1_feed 15 = .ok (.iconst 3, 1) := by decide +kernel
theorem dX1_feed_16 : decode cX1_feed 16 = .ok (.iastore, 1) := by decide +kernel
theorem dX1_feed_17 : decode cX1_feed 17 = .ok (.aload_n 0, 1) := by decide +kernel
theorem dX1_feed_18 : decode cX1_feed 18 = .ok (.getfield 15, 3) := by decide +kernel
theorem dX1_feed_21 : decode cX1_feed 21 = .ok (.iload_n 1, 1) := by decide +kernel
theorem dX1_feed_22 : decode cX1_feed 22 = .ok (.iconst 1, 1) := by decide +kernel
theorem dX1_feed_23 : decode cX1_feed 23 = .ok (.aload_n 0, 1) := by decide +kernel
theorem dX1_feed_24 : decode cX1_feed 24 = .ok (.getfield 15, 3) := by decide +kernel
theorem dX1_feed_27 : decode cX1_feed 27 = .ok (.iload_n 1, 1) := by decide +kernel
theorem dX1_feed_28 : decode cX1_feed 28 = .ok (.iaload, 1) := by decide +kernel
theorem dX1_feed_29 : decode cX1_feed 29 = .ok (.iconst 1, 1) := by decide +kernel
theorem dX1_feed_30 : decode cX1_feed 30 = .ok (.isub, 1) := by decide +kernel
theorem dX1_feed_31 : decode cX1_feed 31 = .ok (.invokestatic 32, 3) := by decide +kernel
theorem dX1_feed_34 : decode cX1_feed 34 = .ok (.iastore, 1) := by decide +kernel
theorem dX1_feed_35 : decode cX1_feed 35 = .ok (.return_, 1) := by decide +kernel
set_option maxRecDepth 20000 in
theorem ggX1_enrage_X1_isAwakeThere : GoodIn wsX1_enrage wsX1_isAwakeThere := goodIn_r _ [11, 12, 13, 14, 15, 16, 17, 18] (by decide +kernel) (by decide +kernel)
set_option maxRecDepth 20000 in
theorem gX1_enrage_X1_isAwakeThere : GoodIn wsX1_enrage (wsV RX1 28 RX1 yX1_isAwakeThere wsX1_isAwakeThere) := goodIn_app (goodIn_of _ (by decide +kernel)) ggX1_enrage_X1_isAwakeThere
theorem dX1_enrage_0 : decode cX1_enrage 0 = .ok (.iconst 0, 1) := by decide +kernel
theorem dX1_enrage_1 : decode cX1_enrage 1 = .ok (.istore_n 2, 1) := by decide +kernel
theorem dX1_enrage_2 : decode cX1_enrage 2 = .ok (.iload_n 2, 1) := by decide +kernel
theorem dX1_enrage_3 : decode cX1_enrage 3 = .ok (.aload_n 0, 1) := by decide +kernel
theorem dX1_enrage_4 : decode cX1_enrage 4 = .ok (.getfield 24, 3) := by decide +kernel
theorem dX1_enrage_7 : decode cX1_enrage 7 = .ok (.if_icmp .ge 37, 3) := by decide +kernel
theorem dX1_enrage_10 : decode cX1_enrage 10 = .ok (.aload_n 0, 1) := by decide +kernel
theorem dX1_enrage_11 : decode cX1_enrage 11 = .ok (.iload_n 2, 1) := by decide +kernel
theorem dX1_enrage_12 : decode cX1_enrage 12 = .ok (.iload_n 1, 1) := by decide +kernel
theorem dX1_enrage_13 : decode cX1_enrage 13 = .ok (.invokevirtual 28, 3) := by decide +kernel
theorem dX1_enrage_16 : decode cX1_enrage 16 = .ok (.ifCond .eq 22, 3) := by decide +kernel
theorem dX1_enrage_19 : decode cX1_enrage 19 = .ok (.aload_n 0, 1) := by decide +kernel
theorem dX1_enrage_20 : decode cX1_enrage 20 = .ok (.getfield 15, 3) := by decide +kernel
theorem dX1_enrage_23 : decode cX1_enrage 23 = .ok (.iload_n 2, 1) := by decide +kernel
theorem dX1_enrage_24 : decode cX1_enrage 24 = .ok (.bipush 9, 2) := by decide +kernel
theorem dX1_enrage_26 : decode cX1_enrage 26 = .ok (.aload_n 0, 1) := by decide +kernel
theorem dX1_enrage_27 : decode cX1_enrage 27 = .ok (.getfield 15, 3) := by decide +kernel
theorem dX1_enrage_30 : decode cX1_enrage 30 = .ok (.iload_n 2, 1) := by decide +kernel
theorem dX1_enrage_31 : decode cX1_enrage 31 = .ok (.iaload, 1) := by decide +kernel
theorem dX1_enrage_32 : decode cX1_enrage 32 = .ok (.iconst 1, 1) := by decide +kernel
theorem dX1_enrage_33 : decode cX1_enrage 33 = .ok (.iadd, 1) := by decide +kernel
theorem dX1_enrage_34 : decode cX1_enrage 34 = .ok (.invokestatic 38, 3) := by decide +kernel
theorem dX1_enrage_37 : decode cX1_enrage 37 = .ok (.iastore, 1) := by decide +kernel
theorem dX1_enrage_38 : decode cX1_enrage 38 = .ok (.iinc 2 1, 3) := by decide +kernel
theorem dX1_enrage_41 : decode cX1_enrage 41 = .ok (.goto (-39), 3) := by decide +kernel
theorem dX1_enrage_44 : decode cX1_enrage 44 = .ok (.return_, 1) := by decide +kernel
theorem dX1_wakeByABeat_0 : decode cX1_wakeByABeat 0 = .ok (.iconst 0, 1) := by decide +kernel
theorem dX1_wakeByABeat_1 : decode cX1_wakeByABeat 1 = .ok (.istore_n 1, 1) := by decide +kernel
theorem dX1_wakeByABeat_2 : decode cX1_wakeByABeat 2 = .ok (.iload_n 1, 1) := by decide +kernel
theorem dX1_wakeByABeat_3 : decode cX1_wakeByABeat 3 = .ok (.aload_n 0, 1) := by decide +kernel
theorem dX1_wakeByABeat_4 : decode cX1_wakeByABeat 4 = .ok (.getfield 24, 3) := by decide +kernel
theorem dX1_wakeByABeat_7 : decode cX1_wakeByABeat 7 = .ok (.if_icmp .ge 28, 3) := by decide +kernel
theorem dX1_wakeByABeat_10 : decode cX1_wakeByABeat 10 = .ok (.aload_n 0, 1) := by decide +kernel
theorem dX1_wakeByABeat_11 : decode cX1_wakeByABeat 11 = .ok (.getfield 18, 3) := by decide +kernel
theorem dX1_wakeByABeat_14 : decode cX1_wakeByABeat 14 = .ok (.iload_n 1, 1) := by decide +kernel
theorem dX1_wakeByABeat_15 : decode cX1_wakeByABeat 15 = .ok (.iaload, 1) := by decide +kernel
theorem dX1_wakeByABeat_16 : decode cX1_wakeByABeat 16 = .ok (.ifCond .le 13, 3) := by decide +kernel
theorem dX1_wakeByABeat_19 : decode cX1_wakeByABeat 19 = .ok (.aload_n 0, 1) := by decide +kernel
theorem dX1_wakeByABeat_20 : decode cX1_wakeByABeat 20 = .ok (.getfield 18, 3) := by decide +kernel
theorem dX1_wakeByABeat_23 : decode cX1_wakeByABeat 23 = .ok (.iload_n 1, 1) := by decide +kernel
theorem dX1_wakeByABeat_24 : decode cX1_wakeByABeat 24 = .ok (.dup2, 1) := by decide +kernel
theorem dX1_wakeByABeat_25 : decode cX1_wakeByABeat 25 = .ok (.iaload, 1) := by decide +kernel
theorem dX1_wakeByABeat_26 : decode cX1_wakeByABeat 26 = .ok (.iconst 1, 1) := by decide +kernel
theorem dX1_wakeByABeat_27 : decode cX1_wakeByABeat 27 = .ok (.isub, 1) := by decide +kernel
theorem dX1_wakeByABeat_28 : decode cX1_wakeByABeat 28 = .ok (.iastore, 1) := by decide +kernel
theorem dX1_wakeByABeat_29 : decode cX1_wakeByABeat 29 = .ok (.iinc 1 1, 3) := by decide +kernel
theorem dX1_wakeByABeat_32 : decode cX1_wakeByABeat 32 = .ok (.goto (-30), 3) := by decide +kernel
theorem dX1_wakeByABeat_35 : decode cX1_wakeByABeat 35 = .ok (.return_, 1) := by decide +kernel
theorem dX1_sumOfTempers_0 : decode cX1_sumOfTempers 0 = .ok (.iconst 0, 1) := by decide +kernel
theorem dX1_sumOfTempers_1 : decode cX1_sumOfTempers 1 = .ok (.istore_n 1, 1) := by decide +kernel
theorem dX1_sumOfTempers_2 : decode cX1_sumOfTempers 2 = .ok (.iconst 0, 1) := by decide +kernel
theorem dX1_sumOfTempers_3 : decode cX1_sumOfTempers 3 = .ok (.istore_n 2, 1) := by decide +kernel
theorem dX1_sumOfTempers_4 : decode cX1_sumOfTempers 4 = .ok (.iload_n 2, 1) := by decide +kernel
theorem dX1_sumOfTempers_5 : decode cX1_sumOfTempers 5 = .ok (.aload_n 0, 1) := by decide +kernel
theorem dX1_sumOfTempers_6 : decode cX1_sumOfTempers 6 = .ok (.getfield 24, 3) := by decide +kernel
theorem dX1_sumOfTempers_9 : decode cX1_sumOfTempers 9 = .ok (.if_icmp .ge 18, 3) := by decide +kernel
theorem dX1_sumOfTempers_12 : decode cX1_sumOfTempers 12 = .ok (.iload_n 1, 1) := by decide +kernel
theorem dX1_sumOfTempers_13 : decode cX1_sumOfTempers 13 = .ok (.aload_n 0, 1) := by decide +kernel
theorem dX1_sumOfTempers_14 : decode cX1_sumOfTempers 14 = .ok (.getfield 15, 3) := by decide +kernel
theorem dX1_sumOfTempers_17 : decode cX1_sumOfTempers 17 = .ok (.iload_n 2, 1) := by decide +kernel
theorem dX1_sumOfTempers_18 : decode cX1_sumOfTempers 18 = .ok (.iaload, 1) := by decide +kernel
theorem dX1_sumOfTempers_19 : decode cX1_sumOfTempers 19 = .ok (.iadd, 1) := by decide +kernel
theorem dX1_sumOfTempers_20 : decode cX1_sumOfTempers 20 = .ok (.istore_n 1, 1) := by decide +kernel
theorem dX1_sumOfTempers_21 : decode cX1_sumOfTempers 21 = .ok (.iinc 2 1, 3) := by decide +kernel
theorem dX1_sumOfTempers_24 : decode cX1_sumOfTempers 24 = .ok (.goto (-20), 3) := by decide +kernel
theorem dX1_sumOfTempers_27 : decode cX1_sumOfTempers 27 = .ok (.iload_n 1, 1) := by decide +kernel
theorem dX1_sumOfTempers_28 : decode cX1_sumOfTempers 28 = .ok (.ireturn, 1) := by decide +kernel
theorem dX1_copyFrom_0 : decode cX1_copyFrom 0 = .ok (.aload_n 0, 1) := by decide +kernel
theorem dX1_copyFrom_1 : decode cX1_copyFrom 1 = .ok (.aload_n 1, 1) := by decide +kernel
theorem dX1_copyFrom_2 : decode cX1_copyFrom 2 = .ok (.getfield 24, 3) := by decide +kernel
theorem dX1_copyFrom_5 : decode cX1_copyFrom 5 = .ok (.putfield 24, 3) := by decide +kernel
theorem dX1_copyFrom_8 : decode cX1_copyFrom 8 = .ok (.aload_n 1, 1) := by decide +kernel
theorem dX1_copyFrom_9 : decode cX1_copyFrom 9 = .ok (.getfield 9, 3) := by decide +kernel
theorem dX1_copyFrom_12 : decode cX1_copyFrom 12 = .ok (.iconst 0, 1) := by decide +kernel
theorem dX1_copyFrom_13 : decode cX1_copyFrom 13 = .ok (.aload_n 0, 1) := by decide +kernel
theorem dX1_copyFrom_14 : decode cX1_copyFrom 14 = .ok (.getfield 9, 3) := by decide +kernel
theorem dX1_copyFrom_17 : decode cX1_copyFrom 17 = .ok (.iconst 0, 1) := by decide +kernel
theorem dX1_copyFrom_18 : decode cX1_copyFrom 18 = .ok (.bipush 8, 2) := by decide +kernel
theorem dX1_copyFrom_20 : decode cX1_copyFrom 20 = .ok (.invokestatic 41, 3) := by decide +kernel
theorem dX1_copyFrom_23 : decode cX1_copyFrom 23 = .ok (.aload_n 1, 1) := by decide +kernel
theorem dX1_copyFrom_24 : decode cX1_copyFrom 24 = .ok (.getfield 15, 3) := by decide +kernel
theorem dX1_copyFrom_27 : decode cX1_copyFrom 27 = .ok (.iconst 0, 1) := by decide +kernel
theorem dX1_copyFrom_28 : decode cX1_copyFrom 28 = .ok (.aload_n 0, 1) := by decide +kernel
theorem dX1_copyFrom_29 : decode cX1_copyFrom 29 = .ok (.getfield 15, 3) := by decide +kernel
theorem dX1_copyFrom_32 : decode cX1_copyFrom 32 = .ok (.iconst 0, 1) := by decide +kernel
theorem dX1_copyFrom_33 : decode cX1_copyFrom 33 = .ok (.bipush 8, 2) := by decide +kernel
theorem dX1_copyFrom_35 : decode cX1_copyFrom 35 = .ok (.invokestatic 41, 3) := by decide +kernel
theorem dX1_copyFrom_38 : decode cX1_copyFrom 38 = .ok (.aload_n 1, 1) := by decide +kernel
theorem dX1_copyFrom_39 : decode cX1_copyFrom 39 = .ok (.getfield 18, 3) := by decide +kernel
theorem dX1_copyFrom_42 : decode cX1_copyFrom 42 = .ok (.iconst 0, 1) := by decide +kernel
theorem dX1_copyFrom_43 : decode cX1_copyFrom 43 = .ok (.aload_n 0, 1) := by decide +kernel
theorem dX1_copyFrom_44 : decode cX1_copyFrom 44 = .ok (.getfield 18, 3) := by decide +kernel
theorem dX1_copyFrom_47 : decode cX1_copyFrom 47 = .ok (.iconst 0, 1) := by decide +kernel
theorem dX1_copyFrom_48 : decode cX1_copyFrom 48 = .ok (.bipush 8, 2) := by decide +kernel
theorem dX1_copyFrom_50 : decode cX1_copyFrom 50 = .ok (.invokestatic 41, 3) := by decide +kernel
theorem dX1_copyFrom_53 : decode cX1_copyFrom 53 = .ok (.aload_n 1, 1) := by decide +kernel
theorem dX1_copyFrom_54 : decode cX1_copyFrom 54 = .ok (.getfield 21, 3) := by decide +kernel
theorem dX1_copyFrom_57 : decode cX1_copyFrom 57 = .ok (.iconst 0, 1) := by decide +kernel
theorem dX1_copyFrom_58 : decode cX1_copyFrom 58 = .ok (.aload_n 0, 1) := by decide +kernel
theorem dX1_copyFrom_59 : decode cX1_copyFrom 59 = .ok (.getfield 21, 3) := by decide +kernel
theorem dX1_copyFrom_62 : decode cX1_copyFrom 62 = .ok (.iconst 0, 1) := by decide +kernel
theorem dX1_copyFrom_63 : decode cX1_copyFrom 63 = .ok (.bipush 8, 2) := by decide +kernel
theorem dX1_copyFrom_65 : decode cX1_copyFrom 65 = .ok (.invokestatic 41, 3) := by decide +kernel
theorem dX1_copyFrom_68 : decode cX1_copyFrom 68 = .ok (.return_, 1) := by decide +kernel
theorem dX2_init_0 : decode cX2_init 0 = .ok (.aload_n 0, 1) := by decide +kernel
theorem dX2_init_1 : decode cX2_init 1 = .ok (.invokespecial 3, 3) := by decide +kernel
theorem dX2_init_4 : decode cX2_init 4 = .ok (.aload_n 0, 1) := by decide +kernel
theorem dX2_init_5 : decode cX2_init 5 = .ok (.bipush 8, 2) := by decide +kernel
theorem dX2_init_7 : decode cX2_init 7 = .ok (.newarray .int, 2) := by decide +kernel
theorem dX2_init_9 : decode cX2_init 9 = .ok (.putfield 9, 3) := by decide +kernel
theorem dX2_init_12 : decode cX2_init 12 = .ok (.aload_n 0, 1) := by decide +kernel
theorem dX2_init_13 : decode cX2_init 13 = .ok (.bipush 8, 2) := by decide +kernel
theorem dX2_init_15 : decode cX2_init 15 = .ok (.newarray .int, 2) := by decide +kernel
theorem dX2_init_17 : decode cX2_init 17 = .ok (.putfield 15, 3) := by decide +kernel
theorem dX2_init_20 : decode cX2_init 20 = .ok (.aload_n 0, 1) := by decide +kernel
theorem dX2_init_21 : decode cX2_init 21 = .ok (.bipush 8, 2) := by decide +kernel
theorem dX2_init_23 : decode cX2_init 23 = .ok (.newarray .int, 2) := by decide +kernel
theorem dX2_init_25 : decode cX2_init 25 = .ok (.putfield 18, 3) := by decide +kernel
theorem dX2_init_28 : decode cX2_init 28 = .ok (.aload_n 0, 1) := by decide +kernel
theorem dX2_init_29 : decode cX2_init 29 = .ok (.bipush 8, 2) := by decide +kernel
theorem dX2_init_31 : decode cX2_init 31 = .ok (.newarray .int, 2) := by decide +kernel
theorem dX2_init_33 : decode cX2_init 33 = .ok (.putfield 21, 3) := by decide +kernel
theorem dX2_init_36 : decode cX2_init 36 = .ok (.aload_n 0, 1) := by decide +kernel
theorem dX2_init_37 : decode cX2_init 37 = .ok (.bipush 8, 2) := by decide +kernel
theorem dX2_init_39 : decode cX2_init 39 = .ok (.newarray .int, 2) := by decide +kernel
theorem dX2_init_41 : decode cX2_init 41 = .ok (.putfield 24, 3) := by decide +kernel
theorem dX2_init_44 : decode cX2_init 44 = .ok (.return_, 1) := by decide +kernel
theorem dX2_hasGuest_0 : decode cX2_hasGuest 0 = .ok (.iload_n 1, 1) := by decide +kernel
theorem dX2_hasGuest_1 : decode cX2_hasGuest 1 = .ok (.ifCond .lt 15, 3) := by decide +kernel
theorem dX2_hasGuest_4 : decode cX2_hasGuest 4 = .ok (.iload_n 1, 1) := by decide +kernel
theorem dX2_hasGuest_5 : decode cX2_hasGuest 5 = .ok (.aload_n 0, 1) := by decide +kernel
theorem dX2_hasGuest_6 : decode cX2_hasGuest 6 = .ok (.getfield 27, 3) := by decide +kernel
theorem dX2_hasGuest_9 : decode cX2_hasGuest 9 = .ok (.if_icmp .ge 7, 3) := by decide +kernel
theorem dX2_hasGuest_12 : decode cX2_hasGuest 12 = .ok (.iconst 1, 1) := by decide +kernel
theorem dX2_hasGuest_13 : decode cX2_hasGuest 13 = .ok (.goto 4, 3) := by decide +kernel
theorem dX2_hasGuest_16 : decode cX2_hasGuest 16 = .ok (.iconst 0, 1) := by decide +kernel
theorem dX2_hasGuest_17 : decode cX2_hasGuest 17 = .ok (.ireturn, 1) := by decide +kernel
theorem dX2_putGuest_0 : decode cX2_putGuest 0 = .ok (.aload_n 0, 1) := by decide +kernel
theorem dX2_putGuest_1 : decode cX2_putGuest 1 = .ok (.getfield 27, 3) := by decide +kernel
theorem dX2_putGuest_4 : decode cX2_putGuest 4 = .ok (.istore 4, 2) := by decide +kernel
theorem dX2_putGuest_6 : decode cX2_putGuest 6 = .ok (.aload_n 0, 1) := by decide +kernel
theorem dX2_putGuest_7 : decode cX2_putGuest 7 = .ok (.getfield 9, 3) := by decide +kernel
theorem dX2_putGuest_10 : decode cX2_putGuest 10 = .ok (.iload 4, 2) := by decide +kernel
theorem dX2_putGuest_12 : decode cX2_putGuest 12 = .ok (.iload_n 1, 1) := by decide +kernel
theorem dX2_putGuest_13 : decode cX2_putGuest 13 = .ok (.iastore, 1) := by decide +kernel
theorem dX2_putGuest_14 : decode cX2_putGuest 14 = .ok (.aload_n 0, 1) := by decide +kernel
theorem dX2_putGuest_15 : decode cX2_putGuest 15 = .ok (.getfield 15, 3) := by decide +kernel
theorem dX2_putGuest_18 : decode cX2_putGuest 18 = .ok (.iload 4, 2) := by decide +kernel
theorem dX2_putGuest_20 : decode cX2_putGuest 20 = .ok (.iload_n 2, 1) := by decide +kernel
theorem dX2_putGuest_21 : decode cX2_putGuest 21 = .ok (.iastore, 1) := by decide +kernel
theorem dX2_putGuest_22 : decode cX2_putGuest 22 = .ok (.aload_n 0, 1) := by decide +kernel
theorem dX2_putGuest_23 : decode cX2_putGuest 23 = .ok (.getfield 18, 3) := by decide +kernel
theorem dX2_putGuest_26 : decode cX2_putGuest 26 = .ok (.iload 4, 2) := by decide +kernel
theorem dX2_putGuest_28 : decode cX2_putGuest 28 = .ok (.iload_n 3, 1) := by decide +kernel
theorem dX2_putGuest_29 : decode cX2_putGuest 29 = .ok (.iastore, 1) := by decide +kernel
theorem dX2_putGuest_30 : decode cX2_putGuest 30 = .ok (.aload_n 0, 1) := by decide +kernel
theorem dX2_putGuest_31 : decode cX2_putGuest 31 = .ok (.dup, 1) := by decide +kernel
theorem dX2_putGuest_32 : decode cX2_putGuest 32 = .ok (.getfield 27, 3) := by decide +kernel
theorem dX2_putGuest_35 : decode cX2_putGuest 35 = .ok (.iconst 1, 1) := by decide +kernel
theorem dX2_putGuest_36 : decode cX2_putGuest 36 = .ok (.iadd, 1) := by decide +kernel
theorem dX2_putGuest_37 : decode cX2_putGuest 37 = .ok (.putfield 27, 3) := by decide +kernel
theorem dX2_putGuest_40 : decode cX2_putGuest 40 = .ok (.iload 4, 2) := by decide +kernel
theorem dX2_putGuest_42 : decode cX2_putGuest 42 = .ok (.ireturn, 1) := by decide +kernel
theorem dX2_fallBack_0 : decode cX2_fallBack 0 = .ok (.aload_n 0, 1) := by decide +kernel
theorem dX2_fallBack_1 : decode cX2_fallBack 1 = .ok (.getfield 24, 3) := by decide +kernel
theorem dX2_fallBack_4 : decode cX2_fallBack 4 = .ok (.iload_n 1, 1) := by decide +kernel
theorem dX2_fallBack_5 : decode cX2_fallBack 5 = .ok (.iload_n 2, 1) := by decide +kernel
theorem dX2_fallBack_6 : decode cX2_fallBack 6 = .ok (.iastore, 1) := by decide +kernel
theorem dX2_fallBack_7 : decode cX2_fallBack 7 = .ok (.aload_n 0, 1) := by decide +kernel
theorem dX2_fallBack_8 : decode cX2_fallBack 8 = .ok (.getfield 15, 3) := by decide +kernel
theorem dX2_fallBack_11 : decode cX2_fallBack 11 = .ok (.iload_n 1, 1) := by decide +kernel
theorem dX2_fallBack_12 : decode cX2_fallBack 12 = .ok (.bipush 20, 2) := by decide +kernel
theorem dX2_fallBack_14 : decode cX2_fallBack 14 = .ok (.aload_n 0, 1) := by decide +kernel
theorem dX2_fallBack_15 : decode cX2_fallBack 15 = .ok (.getfield 15, 3) := by decide +kernel
theorem dX2_fallBack_18 : decode cX2_fallBack 18 = .ok (.iload_n 1, 1) := by decide +kernel
theorem dX2_fallBack_19 : decode cX2_fallBack 19 = .ok (.iaload, 1) := by decide +kernel
theorem dX2_fallBack_20 : decode cX2_fallBack 20 = .ok (.iconst 1, 1) := by decide +kernel
theorem dX2_fallBack_21 : decode cX2_fallBack 21 = .ok (.iadd, 1) := by decide +kernel
theorem dX2_fallBack_22 : decode cX2_fallBack 22 = .ok (.invokestatic 31, 3) := by decide +kernel
theorem dX2_fallBack_25 : decode cX2_fallBack 25 = .ok (.iastore, 1) := by decide +kernel
theorem dX2_fallBack_26 : decode cX2_fallBack 26 = .ok (.aload_n 0, 1) := by decide +kernel
theorem dX2_fallBack_27 : decode cX2_fallBack 27 = .ok (.getfield 21, 3) := by decide +kernel
theorem dX2_fallBack_30 : decode cX2_fallBack 30 = .ok (.iload_n 1, 1) := by decide +kernel
theorem dX2_fallBack_31 : decode cX2_fallBack 31 = .ok (.iaload, 1) := by decide +kernel
theorem dX2_fallBack_32 : decode cX2_fallBack 32 = .ok (.ifCond .le 13, 3) := by decide +kernel
theorem dX2_fallBack_35 : decode cX2_fallBack 35 = .ok (.aload_n 0, 1) := by decide +kernel
theorem dX2_fallBack_36 : decode cX2_fallBack 36 = .ok (.getfield 21, 3) := by decide +kernel
theorem dX2_fallBack_39 : decode cX2_fallBack 39 = .ok (.iload_n 1, 1) := by decide +kernel
theorem dX2_fallBack_40 : decode cX2_fallBack 40 = .ok (.dup2, 1) := by decide +kernel
theorem dX2_fallBack_41 : decode cX2_fallBack 41 = .ok (.iaload, 1) := by decide +kernel
theorem dX2_fallBack_42 : decode cX2_fallBack 42 = .ok (.iconst 1, 1) := by decide +kernel
theorem dX2_fallBack_43 : decode cX2_fallBack 43 = .ok (.isub, 1) := by decide +kernel
theorem dX2_fallBack_44 : decode cX2_fallBack 44 = .ok (.iastore, 1) := by decide +kernel
theorem dX2_fallBack_45 : decode cX2_fallBack 45 = .ok (.return_, 1) := by decide +kernel
theorem dX2_copyFrom_0 : decode cX2_copyFrom 0 = .ok (.aload_n 0, 1) := by decide +kernel
theorem dX2_copyFrom_1 : decode cX2_copyFrom 1 = .ok (.aload_n 1, 1) := by decide +kernel
theorem dX2_copyFrom_2 : decode cX2_copyFrom 2 = .ok (.getfield 27, 3) := by decide +kernel
theorem dX2_copyFrom_5 : decode cX2_copyFrom 5 = .ok (.putfield 27, 3) := by decide +kernel
theorem dX2_copyFrom_8 : decode cX2_copyFrom 8 = .ok (.aload_n 1, 1) := by decide +kernel
theorem dX2_copyFrom_9 : decode cX2_copyFrom 9 = .ok (.getfield 9, 3) := by decide +kernel
theorem dX2_copyFrom_12 : decode cX2_copyFrom 12 = .ok (.iconst 0, 1) := by decide +kernel
theorem dX2_copyFrom_13 : decode cX2_copyFrom 13 = .ok (.aload_n 0, 1) := by decide +kernel
theorem dX2_copyFrom_14 : decode cX2_copyFrom 14 = .ok (.getfield 9, 3) := by decide +kernel
theorem dX2_copyFrom_17 : decode cX2_copyFrom 17 = .ok (.iconst 0, 1) := by decide +kernel
theorem dX2_copyFrom_18 : decode cX2_copyFrom 18 = .ok (.bipush 8, 2) := by decide +kernel
theorem dX2_copyFrom_20 : decode cX2_copyFrom 20 = .ok (.invokestatic 37, 3) := by decide +kernel
theorem dX2_copyFrom_23 : decode cX2_copyFrom 23 = .ok (.aload_n 1, 1) := by decide +kernel
theorem dX2_copyFrom_24 : decode cX2_copyFrom 24 = .ok (.getfield 15, 3) := by decide +kernel
theorem dX2_copyFrom_27 : decode cX2_copyFrom 27 = .ok (.iconst 0, 1) := by decide +kernel
theorem dX2_copyFrom_28 : decode cX2_copyFrom 28 = .ok (.aload_n 0, 1) := by decide +kernel
theorem dX2_copyFrom_29 : decode cX2_copyFrom 29 = .ok (.getfield 15, 3) := by decide +kernel
theorem dX2_copyFrom_32 : decode cX2_copyFrom 32 = .ok (.iconst 0, 1) := by decide +kernel
theorem dX2_copyFrom_33 : decode cX2_copyFrom 33 = .ok (.bipush 8, 2) := by decide +kernel
theorem dX2_copyFrom_35 : decode cX2_copyFrom 35 = .ok (.invokestatic 37, 3) := by decide +kernel
theorem dX2_copyFrom_38 : decode cX2_copyFrom 38 = .ok (.aload_n 1, 1) := by decide +kernel
theorem dX2_copyFrom_39 : decode cX2_copyFrom 39 = .ok (.getfield 18, 3) := by decide +kernel
theorem dX2_copyFrom_42 : decode cX2_copyFrom 42 = .ok (.iconst 0, 1) := by decide +kernel
theorem dX2_copyFrom_43 : decode cX2_copyFrom 43 = .ok (.aload_n 0, 1) := by decide +kernel
theorem dX2_copyFrom_44 : decode cX2_copyFrom 44 = .ok (.getfield 18, 3) := by decide +kernel
theorem dX2_copyFrom_47 : decode cX2_copyFrom 47 = .ok (.iconst 0, 1) := by decide +kernel
theorem dX2_copyFrom_48 : decode cX2_copyFrom 48 = .ok (.bipush 8, 2) := by decide +kernel
theorem dX2_copyFrom_50 : decode cX2_copyFrom 50 = .ok (.invokestatic 37, 3) := by decide +kernel
theorem dX2_copyFrom_53 : decode cX2_copyFrom 53 = .ok (.aload_n 1, 1) := by decide +kernel
theorem dX2_copyFrom_54 : decode cX2_copyFrom 54 = .ok (.getfield 21, 3) := by decide +kernel
theorem dX2_copyFrom_57 : decode cX2_copyFrom 57 = .ok (.iconst 0, 1) := by decide +kernel
theorem dX2_copyFrom_58 : decode cX2_copyFrom 58 = .ok (.aload_n 0, 1) := by decide +kernel
theorem dX2_copyFrom_59 : decode cX2_copyFrom 59 = .ok (.getfield 21, 3) := by decide +kernel
theorem dX2_copyFrom_62 : decode cX2_copyFrom 62 = .ok (.iconst 0, 1) := by decide +kernel
theorem dX2_copyFrom_63 : decode cX2_copyFrom 63 = .ok (.bipush 8, 2) := by decide +kernel
theorem dX2_copyFrom_65 : decode cX2_copyFrom 65 = .ok (.invokestatic 37, 3) := by decide +kernel
theorem dX2_copyFrom_68 : decode cX2_copyFrom 68 = .ok (.aload_n 1, 1) := by decide +kernel
theorem dX2_copyFrom_69 : decode cX2_copyFrom 69 = .ok (.getfield 24, 3) := by decide +kernel
theorem dX2_copyFrom_72 : decode cX2_copyFrom 72 = .ok (.iconst 0, 1) := by decide +kernel
theorem dX2_copyFrom_73 : decode cX2_copyFrom 73 = .ok (.aload_n 0, 1) := by decide +kernel
theorem dX2_copyFrom_74 : decode cX2_copyFrom 74 = .ok (.getfield 24, 3) := by decide +kernel
theorem dX2_copyFrom_77 : decode cX2_copyFrom 77 = .ok (.iconst 0, 1) := by decide +kernel
theorem dX2_copyFrom_78 : decode cX2_copyFrom 78 = .ok (.bipush 8, 2) := by decide +kernel
theorem dX2_copyFrom_80 : decode cX2_copyFrom 80 = .ok (.invokestatic 37, 3) := by decide +kernel
theorem dX2_copyFrom_83 : decode cX2_copyFrom 83 = .ok (.return_, 1) := by decide +kernel
