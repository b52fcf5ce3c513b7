theorem dX4_init_0 : decode cX4_init 0 = .ok (.aload_n 0, 1) := by decide +kernel
theorem dX4_init_1 : decode cX4_init 1 = .ok (.invokespecial 1, 3) := by decide +kernel
theorem dX4_init_4 : decode cX4_init 4 = .ok (.aload_n 0, 1) := by decide +kernel
theorem dX4_init_5 : decode cX4_init 5 = .ok (.bipush 6, 2) := by decide +kernel
theorem dX4_init_7 : decode cX4_init 7 = .ok (.newarray .int, 2) := by decide +kernel
theorem dX4_init_9 : decode cX4_init 9 = .ok (.putfield 9, 3) := by decide +kernel
theorem dX4_init_12 : decode cX4_init 12 = .ok (.aload_n 0, 1) := by decide +kernel
theorem dX4_init_13 : decode cX4_init 13 = .ok (.bipush 8, 2) := by decide +kernel
theorem dX4_init_15 : decode cX4_init 15 = .ok (.newarray .int, 2) := by decide +kernel
theorem dX4_init_17 : decode cX4_init 17 = .ok (.putfield 13, 3) := by decide +kernel
theorem dX4_init_20 : decode cX4_init 20 = .ok (.aload_n 0, 1) := by decide +kernel
theorem dX4_init_21 : decode cX4_init 21 = .ok (.bipush 8, 2) := by decide +kernel
theorem dX4_init_23 : decode cX4_init 23 = .ok (.newarray .int, 2) := by decide +kernel
theorem dX4_init_25 : decode cX4_init 25 = .ok (.putfield 16, 3) := by decide +kernel
theorem dX4_init_28 : decode cX4_init 28 = .ok (.aload_n 0, 1) := by decide +kernel
theorem dX4_init_29 : decode cX4_init 29 = .ok (.bipush 59, 2) := by decide +kernel
theorem dX4_init_31 : decode cX4_init 31 = .ok (.newarray .int, 2) := by decide +kernel
theorem dX4_init_33 : decode cX4_init 33 = .ok (.putfield 19, 3) := by decide +kernel
theorem dX4_init_36 : decode cX4_init 36 = .ok (.aload_n 0, 1) := by decide +kernel
theorem dX4_init_37 : decode cX4_init 37 = .ok (.bipush 59, 2) := by decide +kernel
theorem dX4_init_39 : decode cX4_init 39 = .ok (.newarray .int, 2) := by decide +kernel
theorem dX4_init_41 : decode cX4_init 41 = .ok (.putfield 22, 3) := by decide +kernel
theorem dX4_init_44 : decode cX4_init 44 = .ok (.return_, 1) := by decide +kernel
theorem dX4_thrown_0 : decode cX4_thrown 0 = .ok (.aload_n 0, 1) := by decide +kernel
theorem dX4_thrown_1 : decode cX4_thrown 1 = .ok (.getfield 25, 3) := by decide +kernel
theorem dX4_thrown_4 : decode cX4_thrown 4 = .ok (.ireturn, 1) := by decide +kernel
theorem dX4_fail_0 : decode cX4_fail 0 = .ok (.aload_n 0, 1) := by decide +kernel
theorem dX4_fail_1 : decode cX4_fail 1 = .ok (.iload_n 1, 1) := by decide +kernel
theorem dX4_fail_2 : decode cX4_fail 2 = .ok (.putfield 25, 3) := by decide +kernel
theorem dX4_fail_5 : decode cX4_fail 5 = .ok (.iconst 0, 1) := by decide +kernel
theorem dX4_fail_6 : decode cX4_fail 6 = .ok (.ireturn, 1) := by decide +kernel
theorem dX4_told_0 : decode cX4_told 0 = .ok (.aload_n 0, 1) := by decide +kernel
theorem dX4_told_1 : decode cX4_told 1 = .ok (.iconst 0, 1) := by decide +kernel
theorem dX4_told_2 : decode cX4_told 2 = .ok (.putfield 25, 3) := by decide +kernel
theorem dX4_told_5 : decode cX4_told 5 = .ok (.iload_n 1, 1) := by decide +kernel
theorem dX4_told_6 : decode cX4_told 6 = .ok (.ireturn, 1) := by decide +kernel
theorem dX4_isIn_0 : decode cX4_isIn 0 = .ok (.iload_n 0, 1) := by decide +kernel
theorem dX4_isIn_1 : decode cX4_isIn 1 = .ok (.iload_n 1, 1) := by decide +kernel
theorem dX4_isIn_2 : decode cX4_isIn 2 = .ok (.if_icmp .lt 12, 3) := by decide +kernel
theorem dX4_isIn_5 : decode cX4_isIn 5 = .ok (.iload_n 0, 1) := by decide +kernel
theorem dX4_isIn_6 : decode cX4_isIn 6 = .ok (.iload_n 2, 1) := by decide +kernel
theorem dX4_isIn_7 : decode cX4_isIn 7 = .ok (.if_icmp .gt 7, 3) := by decide +kernel
theorem dX4_isIn_10 : decode cX4_isIn 10 = .ok (.iconst 1, 1) := by decide +kernel
theorem dX4_isIn_11 : decode cX4_isIn 11 = .ok (.goto 4, 3) := by decide +kernel
theorem dX4_isIn_14 : decode cX4_isIn 14 = .ok (.iconst 0, 1) := by decide +kernel
theorem dX4_isIn_15 : decode cX4_isIn 15 = .ok (.ireturn, 1) := by decide +kernel
set_option maxRecDepth 20000 in
theorem ggX4_isGate_X4_isIn : GoodIn wsX4_isGate wsX4_isIn := goodIn_r _ [5] (by decide +kernel) (by decide +kernel)
set_option maxRecDepth 20000 in
theorem gX4_isGate_X4_isIn : GoodIn wsX4_isGate (va_wsS RX4 32 yX4_isIn wsX4_isIn) := goodIn_app (goodIn_of _ (by decide +kernel)) ggX4_isGate_X4_isIn
theorem dX4_isGate_0 : decode cX4_isGate 0 = .ok (.iload_n 1, 1) := by decide +kernel
theorem dX4_isGate_1 : decode cX4_isGate 1 = .ok (.iconst 0, 1) := by decide +kernel
theorem dX4_isGate_2 : decode cX4_isGate 2 = .ok (.aload_n 0, 1) := by decide +kernel
theorem dX4_isGate_3 : decode cX4_isGate 3 = .ok (.getfield 29, 3) := by decide +kernel
theorem dX4_isGate_6 : decode cX4_isGate 6 = .ok (.iconst 1, 1) := by decide +kernel
theorem dX4_isGate_7 : decode cX4_isGate 7 = .ok (.isub, 1) := by decide +kernel
theorem dX4_isGate_8 : decode cX4_isGate 8 = .ok (.invokestatic 32, 3) := by decide +kernel
theorem dX4_isGate_11 : decode cX4_isGate 11 = .ok (.ireturn, 1) := by decide +kernel
set_option maxRecDepth 20000 in
theorem ggX4_isGoose_X4_isIn : GoodIn wsX4_isGoose wsX4_isIn := goodIn_r _ [5] (by decide +kernel) (by decide +kernel)
set_option maxRecDepth 20000 in
theorem gX4_isGoose_X4_isIn : GoodIn wsX4_isGoose (va_wsS RX4 32 yX4_isIn wsX4_isIn) := goodIn_app (goodIn_of _ (by decide +kernel)) ggX4_isGoose_X4_isIn
theorem dX4_isGoose_0 : decode cX4_isGoose 0 = .ok (.iload_n 1, 1) := by decide +kernel
theorem dX4_isGoose_1 : decode cX4_isGoose 1 = .ok (.iconst 0, 1) := by decide +kernel
theorem dX4_isGoose_2 : decode cX4_isGoose 2 = .ok (.aload_n 0, 1) := by decide +kernel
theorem dX4_isGoose_3 : decode cX4_isGoose 3 = .ok (.getfield 36, 3) := by decide +kernel
theorem dX4_isGoose_6 : decode cX4_isGoose 6 = .ok (.iconst 1, 1) := by decide +kernel
theorem dX4_isGoose_7 : decode cX4_isGoose 7 = .ok (.isub, 1) := by decide +kernel
theorem dX4_isGoose_8 : decode cX4_isGoose 8 = .ok (.invokestatic 32, 3) := by decide +kernel
theorem dX4_isGoose_11 : decode cX4_isGoose 11 = .ok (.ireturn, 1) := by decide +kernel
set_option maxRecDepth 20000 in
theorem ggX4_isVisitor_X4_isIn : GoodIn wsX4_isVisitor wsX4_isIn := goodIn_r _ [5] (by decide +kernel) (by decide +kernel)
set_option maxRecDepth 20000 in
theorem gX4_isVisitor_X4_isIn : GoodIn wsX4_isVisitor (va_wsS RX4 32 yX4_isIn wsX4_isIn) := goodIn_app (goodIn_of _ (by decide +kernel)) ggX4_isVisitor_X4_isIn
theorem dX4_isVisitor_0 : decode cX4_isVisitor 0 = .ok (.iload_n 1, 1) := by decide +kernel
theorem dX4_isVisitor_1 : decode cX4_isVisitor 1 = .ok (.iconst 0, 1) := by decide +kernel
theorem dX4_isVisitor_2 : decode cX4_isVisitor 2 = .ok (.aload_n 0, 1) := by decide +kernel
theorem dX4_isVisitor_3 : decode cX4_isVisitor 3 = .ok (.getfield 39, 3) := by decide +kernel
theorem dX4_isVisitor_6 : decode cX4_isVisitor 6 = .ok (.iconst 1, 1) := by decide +kernel
theorem dX4_isVisitor_7 : decode cX4_isVisitor 7 = .ok (.isub, 1) := by decide +kernel
theorem dX4_isVisitor_8 : decode cX4_isVisitor 8 = .ok (.invokestatic 32, 3) := by decide +kernel
theorem dX4_isVisitor_11 : decode cX4_isVisitor 11 = .ok (.ireturn, 1) := by decide +kernel
theorem dX4_go_0 : decode cX4_go 0 = .ok (.aload_n 0, 1) := by decide +kernel
theorem dX4_go_1 : decode cX4_go 1 = .ok (.getfield 19, 3) := by decide +kernel
theorem dX4_go_4 : decode cX4_go 4 = .ok (.iconst 3, 1) := by decide +kernel
theorem dX4_go_5 : decode cX4_go 5 = .ok (.iconst 3, 1) := by decide +kernel
theorem dX4_go_6 : decode cX4_go 6 = .ok (.iload_n 1, 1) := by decide +kernel
theorem dX4_go_7 : decode cX4_go 7 = .ok (.imul, 1) := by decide +kernel
theorem dX4_go_8 : decode cX4_go 8 = .ok (.iadd, 1) := by decide +kernel
theorem dX4_go_9 : decode cX4_go 9 = .ok (.iload_n 2, 1) := by decide +kernel
theorem dX4_go_10 : decode cX4_go 10 = .ok (.iadd, 1) := by decide +kernel
theorem dX4_go_11 : decode cX4_go 11 = .ok (.iaload, 1) := by decide +kernel
theorem dX4_go_12 : decode cX4_go 12 = .ok (.ireturn, 1) := by decide +kernel
theorem dX4_put_0 : decode cX4_put 0 = .ok (.aload_n 0, 1) := by decide +kernel
theorem dX4_put_1 : decode cX4_put 1 = .ok (.getfield 19, 3) := by decide +kernel
theorem dX4_put_4 : decode cX4_put 4 = .ok (.iconst 3, 1) := by decide +kernel
theorem dX4_put_5 : decode cX4_put 5 = .ok (.iconst 3, 1) := by decide +kernel
theorem dX4_put_6 : decode cX4_put 6 = .ok (.iload_n 1, 1) := by decide +kernel
theorem dX4_put_7 : decode cX4_put 7 = .ok (.imul, 1) := by decide +kernel
theorem dX4_put_8 : decode cX4_put 8 = .ok (.iadd, 1) := by decide +kernel
theorem dX4_put_9 : decode cX4_put 9 = .ok (.iload_n 2, 1) := by decide +kernel
theorem dX4_put_10 : decode cX4_put 10 = .ok (.iadd, 1) := by decide +kernel
theorem dX4_put_11 : decode cX4_put 11 = .ok (.iload_n 3, 1) := by decide +kernel
theorem dX4_put_12 : decode cX4_put 12 = .ok (.iastore, 1) := by decide +kernel
theorem dX4_put_13 : decode cX4_put 13 = .ok (.return_, 1) := by decide +kernel
theorem dX4_vi_0 : decode cX4_vi 0 = .ok (.aload_n 0, 1) := by decide +kernel
theorem dX4_vi_1 : decode cX4_vi 1 = .ok (.getfield 19, 3) := by decide +kernel
theorem dX4_vi_4 : decode cX4_vi 4 = .ok (.bipush 27, 2) := by decide +kernel
theorem dX4_vi_6 : decode cX4_vi 6 = .ok (.iconst 4, 1) := by decide +kernel
theorem dX4_vi_7 : decode cX4_vi 7 = .ok (.iload_n 1, 1) := by decide +kernel
theorem dX4_vi_8 : decode cX4_vi 8 = .ok (.imul, 1) := by decide +kernel
theorem dX4_vi_9 : decode cX4_vi 9 = .ok (.iadd, 1) := by decide +kernel
theorem dX4_vi_10 : decode cX4_vi 10 = .ok (.iload_n 2, 1) := by decide +kernel
theorem dX4_vi_11 : decode cX4_vi 11 = .ok (.iadd, 1) := by decide +kernel
theorem dX4_vi_12 : decode cX4_vi 12 = .ok (.iaload, 1) := by decide +kernel
theorem dX4_vi_13 : decode cX4_vi 13 = .ok (.ireturn, 1) := by decide +kernel
theorem dX4_let_0 : decode cX4_let 0 = .ok (.aload_n 0, 1) := by decide +kernel
theorem dX4_let_1 : decode cX4_let 1 = .ok (.getfield 19, 3) := by decide +kernel
theorem dX4_let_4 : decode cX4_let 4 = .ok (.bipush 27, 2) := by decide +kernel
theorem dX4_let_6 : decode cX4_let 6 = .ok (.iconst 4, 1) := by decide +kernel
theorem dX4_let_7 : decode cX4_let 7 = .ok (.iload_n 1, 1) := by decide +kernel
theorem dX4_let_8 : decode cX4_let 8 = .ok (.imul, 1) := by decide +kernel
theorem dX4_let_9 : decode cX4_let 9 = .ok (.iadd, 1) := by decide +kernel
theorem dX4_let_10 : decode cX4_let 10 = .ok (.iload_n 2, 1) := by decide +kernel
theorem dX4_let_11 : decode cX4_let 11 = .ok (.iadd, 1) := by decide +kernel
theorem dX4_let_12 : decode cX4_let 12 = .ok (.iload_n 3, 1) := by decide +kernel
theorem dX4_let_13 : decode cX4_let 13 = .ok (.iastore, 1) := by decide +kernel
theorem dX4_let_14 : decode cX4_let 14 = .ok (.return_, 1) := by decide +kernel
theorem dX4_keep_0 : decode cX4_keep 0 = .ok (.aload_n 0, 1) := by decide +kernel
theorem dX4_keep_1 : decode cX4_keep 1 = .ok (.getfield 19, 3) := by decide +kernel
theorem dX4_keep_4 : decode cX4_keep 4 = .ok (.iconst 0, 1) := by decide +kernel
theorem dX4_keep_5 : decode cX4_keep 5 = .ok (.aload_n 0, 1) := by decide +kernel
theorem dX4_keep_6 : decode cX4_keep 6 = .ok (.getfield 22, 3) := by decide +kernel
theorem dX4_keep_9 : decode cX4_keep 9 = .ok (.iconst 0, 1) := by decide +kernel
theorem dX4_keep_10 : decode cX4_keep 10 = .ok (.bipush 59, 2) := by decide +kernel
theorem dX4_keep_12 : decode cX4_keep 12 = .ok (.invokestatic 42, 3) := by decide +kernel
theorem dX4_keep_15 : decode cX4_keep 15 = .ok (.return_, 1) := by decide +kernel
theorem dX4_bringBack_0 : decode cX4_bringBack 0 = .ok (.aload_n 0, 1) := by decide +kernel
theorem dX4_bringBack_1 : decode cX4_bringBack 1 = .ok (.getfield 22, 3) := by decide +kernel
theorem dX4_bringBack_4 : decode cX4_bringBack 4 = .ok (.iconst 0, 1) := by decide +kernel
theorem dX4_bringBack_5 : decode cX4_bringBack 5 = .ok (.aload_n 0, 1) := by decide +kernel
theorem dX4_bringBack_6 : decode cX4_bringBack 6 = .ok (.getfield 19, 3) := by decide +kernel
theorem dX4_bringBack_9 : decode cX4_bringBack 9 = .ok (.iconst 0, 1) := by decide +kernel
theorem dX4_bringBack_10 : decode cX4_bringBack 10 = .ok (.bipush 59, 2) := by decide +kernel
theorem dX4_bringBack_12 : decode cX4_bringBack 12 = .ok (.invokestatic 42, 3) := by decide +kernel
theorem dX4_bringBack_15 : decode cX4_bringBack 15 = .ok (.return_, 1) := by decide +kernel
set_option maxRecDepth 20000 in
theorem ggX4_isAwake_X4_go : GoodIn wsX4_isAwake wsX4_go := goodIn_r _ [6, 7, 8, 9, 10, 11, 12, 13, 14, 15, 16] (by decide +kernel) (by decide +kernel)
set_option maxRecDepth 20000 in
theorem gX4_isAwake_X4_go : GoodIn wsX4_isAwake (wsV RX4 48 RX4 yX4_go wsX4_go) := goodIn_app (goodIn_of _ (by decide +kernel)) ggX4_isAwake_X4_go
theorem dX4_isAwake_0 : decode cX4_isAwake 0 = .ok (.aload_n 0, 1) := by decide +kernel
theorem dX4_isAwake_1 : decode cX4_isAwake 1 = .ok (.getfield 13, 3) := by decide +kernel
theorem dX4_isAwake_4 : decode cX4_isAwake 4 = .ok (.iload_n 1, 1) := by decide +kernel
theorem dX4_isAwake_5 : decode cX4_isAwake 5 = .ok (.iaload, 1) := by decide +kernel
theorem dX4_isAwake_6 : decode cX4_isAwake 6 = .ok (.iload_n 2, 1) := by decide +kernel
theorem dX4_isAwake_7 : decode cX4_isAwake 7 = .ok (.if_icmp .ne 16, 3) := by decide +kernel
theorem dX4_isAwake_10 : decode cX4_isAwake 10 = .ok (.aload_n 0, 1) := by decide +kernel
theorem dX4_isAwake_11 : decode cX4_isAwake 11 = .ok (.iload_n 1, 1) := by decide +kernel
theorem dX4_isAwake_12 : decode cX4_isAwake 12 = .ok (.iconst 1, 1) := by decide +kernel
theorem dX4_isAwake_13 : decode cX4_isAwake 13 = .ok (.invokevirtual 48, 3) := by decide +kernel
theorem dX4_isAwake_16 : decode cX4_isAwake 16 = .ok (.ifCond .ne 7, 3) := by decide +kernel
theorem dX4_isAwake_19 : decode cX4_isAwake 19 = .ok (.iconst 1, 1) := by decide +kernel
theorem dX4_isAwake_20 : decode cX4_isAwake 20 = .ok (.goto 4, 3) := by decide +kernel
theorem dX4_isAwake_23 : decode cX4_isAwake 23 = .ok (.iconst 0, 1) := by decide +kernel
theorem dX4_isAwake_24 : decode cX4_isAwake 24 = .ok (.ireturn, 1) := by decide +kernel
theorem dX4_more_0 : decode cX4_more 0 = .ok (.iconst 0, 1) := by decide +kernel
theorem dX4_more_1 : decode cX4_more 1 = .ok (.aload_n 0, 1) := by decide +kernel
theorem dX4_more_2 : decode cX4_more 2 = .ok (.getfield 9, 3) := by decide +kernel
theorem dX4_more_5 : decode cX4_more 5 = .ok (.iload_n 1, 1) := by decide +kernel
theorem dX4_more_6 : decode cX4_more 6 = .ok (.iaload, 1) := by decide +kernel
theorem dX4_more_7 : decode cX4_more 7 = .ok (.iload_n 2, 1) := by decide +kernel
theorem dX4_more_8 : decode cX4_more 8 = .ok (.isub, 1) := by decide +kernel
theorem dX4_more_9 : decode cX4_more 9 = .ok (.invokestatic 52, 3) := by decide +kernel
theorem dX4_more_12 : decode cX4_more 12 = .ok (.ireturn, 1) := by decide +kernel
set_option maxRecDepth 20000 in
theorem ggX4_hiss_X4_isAwake : GoodIn wsX4_hiss wsX4_isAwake := goodIn_r _ [6, 7, 8, 9, 10, 5, 11, 12, 22, 23, 24, 25, 26, 27, 28, 29, 30] (by decide +kernel) (by decide +kernel)
set_option maxRecDepth 20000 in
theorem gX4_hiss_X4_isAwake : GoodIn wsX4_hiss (wsV RX4 57 RX4 yX4_isAwake wsX4_isAwake) := goodIn_app (goodIn_of _ (by decide +kernel)) ggX4_hiss_X4_isAwake
set_option maxRecDepth 20000 in
theorem ggX4_hiss_X4_go : GoodIn wsX4_hiss wsX4_go := goodIn_r _ [11, 12, 22, 23, 24, 25, 26, 27, 28, 29, 30] (by decide +kernel) (by decide +kernel)
set_option maxRecDepth 20000 in
theorem gX4_hiss_X4_go : GoodIn wsX4_hiss (wsV RX4 48 RX4 yX4_go wsX4_go) := goodIn_app (goodIn_of _ (by decide +kernel)) ggX4_hiss_X4_go
set_option maxRecDepth 20000 in
theorem ggX4_hiss_X4_more : GoodIn wsX4_hiss wsX4_more := goodIn_r _ [16, 17, 18, 19, 20, 21, 22, 23, 24, 25, 26, 27, 28, 29, 30] (by decide +kernel) (by decide +kernel)
set_option maxRecDepth 20000 in
theorem gX4_hiss_X4_more : GoodIn wsX4_hiss (wsV RX4 61 RX4 yX4_more wsX4_more) := goodIn_app (goodIn_of _ (by decide +kernel)) ggX4_hiss_X4_more
theorem dX4_hiss_0 : decode cX4_hiss 0 = .ok (.iconst 0, 1) := by decide +kernel
theorem dX4_hiss_1 : decode cX4_hiss 1 = .ok (.istore_n 3, 1) := by decide +kernel
theorem dX4_hiss_2 : decode cX4_hiss 2 = .ok (.iconst 0, 1) := by decide +kernel
theorem dX4_hiss_3 : decode cX4_hiss 3 = .ok (.istore 4, 2) := by decide +kernel
theorem dX4_hiss_5 : decode cX4_hiss 5 = .ok (.iload 4, 2) := by decide +kernel
theorem dX4_hiss_7 : decode cX4_hiss 7 = .ok (.aload_n 0, 1) := by decide +kernel
theorem dX4_hiss_8 : decode cX4_hiss 8 = .ok (.getfield 36, 3) := by decide +kernel
theorem dX4_hiss_11 : decode cX4_hiss 11 = .ok (.if_icmp .ge 36, 3) := by decide +kernel
theorem dX4_hiss_14 : decode cX4_hiss 14 = .ok (.aload_n 0, 1) := by decide +kernel
theorem dX4_hiss_15 : decode cX4_hiss 15 = .ok (.iload 4, 2) := by decide +kernel
theorem dX4_hiss_17 : decode cX4_hiss 17 = .ok (.iload_n 1, 1) := by decide +kernel
theorem dX4_hiss_18 : decode cX4_hiss 18 = .ok (.invokevirtual 57, 3) := by decide +kernel
theorem dX4_hiss_21 : decode cX4_hiss 21 = .ok (.ifCond .eq 20, 3) := by decide +kernel
theorem dX4_hiss_24 : decode cX4_hiss 24 = .ok (.iload_n 3, 1) := by decide +kernel
theorem dX4_hiss_25 : decode cX4_hiss 25 = .ok (.aload_n 0, 1) := by decide +kernel
theorem dX4_hiss_26 : decode cX4_hiss 26 = .ok (.iload 4, 2) := by decide +kernel
theorem dX4_hiss_28 : decode cX4_hiss 28 = .ok (.iconst 0, 1) := by decide +kernel
theorem dX4_hiss_29 : decode cX4_hiss 29 = .ok (.invokevirtual 48, 3) := by decide +kernel
theorem dX4_hiss_32 : decode cX4_hiss 32 = .ok (.aload_n 0, 1) := by decide +kernel
theorem dX4_hiss_33 : decode cX4_hiss 33 = .ok (.iload_n 1, 1) := by decide +kernel
theorem dX4_hiss_34 : decode cX4_hiss 34 = .ok (.iload_n 2, 1) := by decide +kernel
theorem dX4_hiss_35 : decode cX4_hiss 35 = .ok (.invokevirtual 61, 3) := by decide +kernel
theorem dX4_hiss_38 : decode cX4_hiss 38 = .ok (.iadd, 1) := by decide +kernel
theorem dX4_hiss_39 : decode cX4_hiss 39 = .ok (.iadd, 1) := by decide +kernel
theorem dX4_hiss_40 : decode cX4_hiss 40 = .ok (.istore_n 3, 1) := by decide +kernel
theorem dX4_hiss_41 : decode cX4_hiss 41 = .ok (.iinc 4 1, 3) := by decide +kernel
theorem dX4_hiss_44 : decode cX4_hiss 44 = .ok (.goto (-39), 3) := by decide +kernel
theorem dX4_hiss_47 : decode cX4_hiss 47 = .ok (.iload_n 3, 1) := by decide +kernel
theorem dX4_hiss_48 : decode cX4_hiss 48 = .ok (.ireturn, 1) := by decide +kernel
set_option maxRecDepth 20000 in
theorem ggX4_isIn__X4_vi : GoodIn wsX4_isIn_ wsX4_vi := goodIn_r _ [6, 7, 8, 9, 10, 11, 12, 13, 14, 15, 16] (by decide +kernel) (by decide +kernel)
set_option maxRecDepth 20000 in
theorem gX4_isIn__X4_vi : GoodIn wsX4_isIn_ (wsV RX4 64 RX4 yX4_vi wsX4_vi) := goodIn_app (goodIn_of _ (by decide +kernel)) ggX4_isIn__X4_vi
theorem dX4_isIn__0 : decode cX4_isIn_ 0 = .ok (.aload_n 0, 1) := by decide +kernel
theorem dX4_isIn__1 : decode cX4_isIn_ 1 = .ok (.iload_n 1, 1) := by decide +kernel
theorem dX4_isIn__2 : decode cX4_isIn_ 2 = .ok (.iconst 0, 1) := by decide +kernel
theorem dX4_isIn__3 : decode cX4_isIn_ 3 = .ok (.invokevirtual 64, 3) := by decide +kernel
theorem dX4_isIn__6 : decode cX4_isIn_ 6 = .ok (.aload_n 0, 1) := by decide +kernel
theorem dX4_isIn__7 : decode cX4_isIn_ 7 = .ok (.getfield 29, 3) := by decide +kernel
theorem dX4_isIn__10 : decode cX4_isIn_ 10 = .ok (.if_icmp .ne 7, 3) := by decide +kernel
theorem dX4_isIn__13 : decode cX4_isIn_ 13 = .ok (.iconst 1, 1) := by decide +kernel
theorem dX4_isIn__14 : decode cX4_isIn_ 14 = .ok (.goto 4, 3) := by decide +kernel
theorem dX4_isIn__17 : decode cX4_isIn_ 17 = .ok (.iconst 0, 1) := by decide +kernel
theorem dX4_isIn__18 : decode cX4_isIn_ 18 = .ok (.ireturn, 1) := by decide +kernel
set_option maxRecDepth 20000 in
theorem ggX4_hissNow_X4_isIn_ : GoodIn wsX4_hissNow wsX4_isIn_ := goodIn_r _ [6, 7, 8, 9, 10, 5, 11, 12, 36, 37, 38, 39, 40, 41, 42, 43, 44] (by decide +kernel) (by decide +kernel)
set_option maxRecDepth 20000 in
theorem gX4_hissNow_X4_isIn_ : GoodIn wsX4_hissNow (wsV RX4 67 RX4 yX4_isIn_ wsX4_isIn_) := goodIn_app (goodIn_of _ (by decide +kernel)) ggX4_hissNow_X4_isIn_
set_option maxRecDepth 20000 in
theorem ggX4_hissNow_X4_vi : GoodIn wsX4_hissNow wsX4_vi := goodIn_r _ [11, 12, 36, 37, 38, 39, 40, 41, 42, 43, 44] (by decide +kernel) (by decide +kernel)
set_option maxRecDepth 20000 in
theorem gX4_hissNow_X4_vi : GoodIn wsX4_hissNow (wsV RX4 64 RX4 yX4_vi wsX4_vi) := goodIn_app (goodIn_of _ (by decide +kernel)) ggX4_hissNow_X4_vi
set_option maxRecDepth 20000 in
theorem ggX4_hissNow_X4_hiss : GoodIn wsX4_hissNow wsX4_hiss := goodIn_r _ [16, 17, 18, 19, 20, 5, 21, 22, 23, 24, 25, 26, 12, 27, 28, 29, 30, 31, 32, 33, 34, 35, 36, 37, 38, 39, 40, 41, 42, 43, 44] (by decide +kernel) (by decide +kernel)
set_option maxRecDepth 20000 in
theorem gX4_hissNow_X4_hiss : GoodIn wsX4_hissNow (wsV RX4 70 RX4 yX4_hiss wsX4_hiss) := goodIn_app (goodIn_of _ (by decide +kernel)) ggX4_hissNow_X4_hiss
theorem dX4_hissNow_0 : decode cX4_hissNow 0 = .ok (.aload_n 0, 1) := by decide +kernel
theorem dX4_hissNow_1 : decode cX4_hissNow 1 = .ok (.iload_n 1, 1) := by decide +kernel
theorem dX4_hissNow_2 : decode cX4_hissNow 2 = .ok (.invokevirtual 67, 3) := by decide +kernel
theorem dX4_hissNow_5 : decode cX4_hissNow 5 = .ok (.ifCond .eq 7, 3) := by decide +kernel
theorem dX4_hissNow_8 : decode cX4_hissNow 8 = .ok (.iconst 0, 1) := by decide +kernel
theorem dX4_hissNow_9 : decode cX4_hissNow 9 = .ok (.goto 19, 3) := by decide +kernel
theorem dX4_hissNow_12 : decode cX4_hissNow 12 = .ok (.aload_n 0, 1) := by decide +kernel
theorem dX4_hissNow_13 : decode cX4_hissNow 13 = .ok (.aload_n 0, 1) := by decide +kernel
theorem dX4_hissNow_14 : decode cX4_hissNow 14 = .ok (.iload_n 1, 1) := by decide +kernel
theorem dX4_hissNow_15 : decode cX4_hissNow 15 = .ok (.iconst 0, 1) := by decide +kernel
theorem dX4_hissNow_16 : decode cX4_hissNow 16 = .ok (.invokevirtual 64, 3) := by decide +kernel
theorem dX4_hissNow_19 : decode cX4_hissNow 19 = .ok (.aload_n 0, 1) := by decide +kernel
theorem dX4_hissNow_20 : decode cX4_hissNow 20 = .ok (.getfield 16, 3) := by decide +kernel
theorem dX4_hissNow_23 : decode cX4_hissNow 23 = .ok (.iload_n 1, 1) := by decide +kernel
theorem dX4_hissNow_24 : decode cX4_hissNow 24 = .ok (.iaload, 1) := by decide +kernel
theorem dX4_hissNow_25 : decode cX4_hissNow 25 = .ok (.invokevirtual 70, 3) := by decide +kernel
theorem dX4_hissNow_28 : decode cX4_hissNow 28 = .ok (.ireturn, 1) := by decide +kernel
theorem dX4_grade_0 : decode cX4_grade 0 = .ok (.iload_n 0, 1) := by decide +kernel
theorem dX4_grade_1 : decode cX4_grade 1 = .ok (.ifCond .ne 7, 3) := by decide +kernel
theorem dX4_grade_4 : decode cX4_grade 4 = .ok (.iconst 0, 1) := by decide +kernel
theorem dX4_grade_5 : decode cX4_grade 5 = .ok (.goto 33, 3) := by decide +kernel
theorem dX4_grade_8 : decode cX4_grade 8 = .ok (.iload_n 0, 1) := by decide +kernel
theorem dX4_grade_9 : decode cX4_grade 9 = .ok (.iconst 5, 1) := by decide +kernel
theorem dX4_grade_10 : decode cX4_grade 10 = .ok (.if_icmp .gt 7, 3) := by decide +kernel
theorem dX4_grade_13 : decode cX4_grade 13 = .ok (.iconst 1, 1) := by decide +kernel
theorem dX4_grade_14 : decode cX4_grade 14 = .ok (.goto 24, 3) := by decide +kernel
theorem dX4_grade_17 : decode cX4_grade 17 = .ok (.iload_n 0, 1) := by decide +kernel
theorem dX4_grade_18 : decode cX4_grade 18 = .ok (.bipush 10, 2) := by decide +kernel
theorem dX4_grade_20 : decode cX4_grade 20 = .ok (.if_icmp .gt 7, 3) := by decide +kernel
theorem dX4_grade_23 : decode cX4_grade 23 = .ok (.iconst 2, 1) := by decide +kernel
theorem dX4_grade_24 : decode cX4_grade 24 = .ok (.goto 14, 3) := by decide +kernel
theorem dX4_grade_27 : decode cX4_grade 27 = .ok (.iload_n 0, 1) := by decide +kernel
theorem dX4_grade_28 : decode cX4_grade 28 = .ok (.bipush 20, 2) := by decide +kernel
theorem dX4_grade_30 : decode cX4_grade 30 = .ok (.if_icmp .gt 7, 3) := by decide +kernel
theorem dX4_grade_33 : decode cX4_grade 33 = .ok (.iconst 3, 1) := by decide +kernel
theorem dX4_grade_34 : decode cX4_grade 34 = .ok (.goto 4, 3) := by decide +kernel
theorem dX4_grade_37 : decode cX4_grade 37 = .ok (.iconst 4, 1) := by decide +kernel
theorem dX4_grade_38 : decode cX4_grade 38 = .ok (.ireturn, 1) := by decide +kernel
set_option maxRecDepth 20000 in
theorem ggX4_angriest_X4_isAwake : GoodIn wsX4_angriest wsX4_isAwake := goodIn_r _ [6, 7, 8, 9, 10, 5, 11, 12, 13, 14, 15, 16, 17, 18, 19, 20, 21] (by decide +kernel) (by decide +kernel)
set_option maxRecDepth 20000 in
theorem gX4_angriest_X4_isAwake : GoodIn wsX4_angriest (wsV RX4 57 RX4 yX4_isAwake wsX4_isAwake) := goodIn_app (goodIn_of _ (by decide +kernel)) ggX4_angriest_X4_isAwake
set_option maxRecDepth 20000 in
theorem ggX4_angriest_X4_go : GoodIn wsX4_angriest wsX4_go := goodIn_r _ [11, 12, 13, 14, 15, 16, 17, 18, 19, 20, 21] (by decide +kernel) (by decide +kernel)
set_option maxRecDepth 20000 in
theorem gX4_angriest_X4_go : GoodIn wsX4_angriest (wsV RX4 48 RX4 yX4_go wsX4_go) := goodIn_app (goodIn_of _ (by decide +kernel)) ggX4_angriest_X4_go
theorem dX4_angriest_0 : decode cX4_angriest 0 = .ok (.iconst (-1), 1) := by decide +kernel
theorem dX4_angriest_1 : decode cX4_angriest 1 = .ok (.istore_n 2, 1) := by decide +kernel
theorem dX4_angriest_2 : decode cX4_angriest 2 = .ok (.iconst 0, 1) := by decide +kernel
theorem dX4_angriest_3 : decode cX4_angriest 3 = .ok (.istore_n 3, 1) := by decide +kernel
theorem dX4_angriest_4 : decode cX4_angriest 4 = .ok (.iload_n 3, 1) := by decide +kernel
theorem dX4_angriest_5 : decode cX4_angriest 5 = .ok (.aload_n 0, 1) := by decide +kernel
theorem dX4_angriest_6 : decode cX4_angriest 6 = .ok (.getfield 36, 3) := by decide +kernel
theorem dX4_angriest_9 : decode cX4_angriest 9 = .ok (.if_icmp .ge 40, 3) := by decide +kernel
theorem dX4_angriest_12 : decode cX4_angriest 12 = .ok (.aload_n 0, 1) := by decide +kernel
theorem dX4_angriest_13 : decode cX4_angriest 13 = .ok (.iload_n 3, 1) := by decide +kernel
theorem dX4_angriest_14 : decode cX4_angriest 14 = .ok (.iload_n 1, 1) := by decide +kernel
theorem dX4_angriest_15 : decode cX4_angriest 15 = .ok (.invokevirtual 57, 3) := by decide +kernel
theorem dX4_angriest_18 : decode cX4_angriest 18 = .ok (.ifCond .eq 25, 3) := by decide +kernel
theorem dX4_angriest_21 : decode cX4_angriest 21 = .ok (.iload_n 2, 1) := by decide +kernel
theorem dX4_angriest_22 : decode cX4_angriest 22 = .ok (.iconst (-1), 1) := by decide +kernel
theorem dX4_angriest_23 : decode cX4_angriest 23 = .ok (.if_icmp .eq 18, 3) := by decide +kernel
theorem dX4_angriest_26 : decode cX4_angriest 26 = .ok (.aload_n 0, 1) := by decide +kernel
theorem dX4_angriest_27 : decode cX4_angriest 27 = .ok (.iload_n 3, 1) := by decide +kernel
theorem dX4_angriest_28 : decode cX4_angriest 28 = .ok (.iconst 0, 1) := by decide +kernel
theorem dX4_angriest_29 : decode cX4_angriest 29 = .ok (.invokevirtual 48, 3) := by decide +kernel
theorem dX4_angriest_32 : decode cX4_angriest 32 = .ok (.aload_n 0, 1) := by decide +kernel
theorem dX4_angriest_33 : decode cX4_angriest 33 = .ok (.iload_n 2, 1) := by decide +kernel
theorem dX4_angriest_34 : decode cX4_angriest 34 = .ok (.iconst 0, 1) := by decide +kernel
theorem dX4_angriest_35 : decode cX4_angriest 35 = .ok (.invokevirtual 48, 3) := by decide +kernel
theorem dX4_angriest_38 : decode cX4_angriest 38 = .ok (.if_icmp .le 5, 3) := by decide +kernel
theorem dX4_angriest_41 : decode cX4_angriest 41 = .ok (.iload_n 3, 1) := by decide +kernel
theorem dX4_angriest_42 : decode cX4_angriest 42 = .ok (.istore_n 2, 1) := by decide +kernel
theorem dX4_angriest_43 : decode cX4_angriest 43 = .ok (.iinc 3 1, 3) := by decide +kernel
theorem dX4_angriest_46 : decode cX4_angriest 46 = .ok (.goto (-42), 3) := by decide +kernel
theorem dX4_angriest_49 : decode cX4_angriest 49 = .ok (.iload_n 2, 1) := by decide +kernel
theorem dX4_angriest_50 : decode cX4_angriest 50 = .ok (.ireturn, 1) := by decide +kernel
set_option maxRecDepth 20000 in
theorem ggX4_feed_X4_vi : GoodIn wsX4_feed wsX4_vi := goodIn_r _ [10, 5, 23, 24, 25, 26, 27, 28, 29, 30, 31] (by decide +kernel) (by decide +kernel)
set_option maxRecDepth 20000 in
theorem gX4_feed_X4_vi : GoodIn wsX4_feed (wsV RX4 64 RX4 yX4_vi wsX4_vi) := goodIn_app (goodIn_of _ (by decide +kernel)) ggX4_feed_X4_vi
set_option maxRecDepth 20000 in
theorem ggX4_feed_X4_let : GoodIn wsX4_feed wsX4_let := goodIn_r _ [14, 5, 23, 24, 25, 26, 27, 28, 29, 30, 31] (by decide +kernel) (by decide +kernel)
set_option maxRecDepth 20000 in
theorem gX4_feed_X4_let : GoodIn wsX4_feed (wsV RX4 73 RX4 yX4_let wsX4_let) := goodIn_app (goodIn_of _ (by decide +kernel)) ggX4_feed_X4_let
set_option maxRecDepth 20000 in
theorem ggX4_feed_X4_put : GoodIn wsX4_feed wsX4_put := goodIn_r _ [18, 5, 23, 24, 25, 26, 27, 28, 29, 30, 31] (by decide +kernel) (by decide +kernel)
set_option maxRecDepth 20000 in
theorem gX4_feed_X4_put : GoodIn wsX4_feed (wsV RX4 77 RX4 yX4_put wsX4_put) := goodIn_app (goodIn_of _ (by decide +kernel)) ggX4_feed_X4_put
set_option maxRecDepth 20000 in
theorem ggX4_feed_X4_go : GoodIn wsX4_feed wsX4_go := goodIn_r _ [22, 5, 23, 24, 25, 26, 27, 28, 29, 30, 31] (by decide +kernel) (by decide +kernel)
set_option maxRecDepth 20000 in
theorem gX4_feed_X4_go : GoodIn wsX4_feed (wsV RX4 48 RX4 yX4_go wsX4_go) := goodIn_app (goodIn_of _ (by decide +kernel)) ggX4_feed_X4_go
theorem dX4_feed_0 : decode cX4_feed 0 = .ok (.aload_n 0, 1) := by decide +kernel
theorem dX4_feed_1 : decode cX4_feed 1 = .ok (.iload_n 1, 1) := by decide +kernel
theorem dX4_feed_2 : decode cX4_feed 2 = .ok (.iconst 1, 1) := by decide +kernel
theorem dX4_feed_3 : decode cX4_feed 3 = .ok (.aload_n 0, 1) := by decide +kernel
theorem dX4_feed_4 : decode cX4_feed 4 = .ok (.iload_n 1, 1) := by decide +kernel
theorem dX4_feed_5 : decode cX4_feed 5 = .ok (.iconst 1, 1) := by decide +kernel
theorem dX4_feed_6 : decode cX4_feed 6 = .ok (.invokevirtual 64, 3) := by decide +kernel
theorem dX4_feed_9 : decode cX4_feed 9 = .ok (.iconst 1, 1) := by decide +kernel
theorem dX4_feed_10 : decode cX4_feed 10 = .ok (.isub, 1) := by decide +kernel
theorem dX4_feed_11 : decode cX4_feed 11 = .ok (.invokevirtual 73, 3) := by decide +kernel
theorem dX4_feed_14 : decode cX4_feed 14 = .ok (.aload_n 0, 1) := by decide +kernel
theorem dX4_feed_15 : decode cX4_feed 15 = .ok (.iload_n 2, 1) := by decide +kernel
theorem dX4_feed_16 : decode cX4_feed 16 = .ok (.iconst 1, 1) := by decide +kernel
theorem dX4_feed_17 : decode cX4_feed 17 = .ok (.iconst 3, 1) := by decide +kernel
theorem dX4_feed_18 : decode cX4_feed 18 = .ok (.invokevirtual 77, 3) := by decide +kernel
theorem dX4_feed_21 : decode cX4_feed 21 = .ok (.aload_n 0, 1) := by decide +kernel
theorem dX4_feed_22 : decode cX4_feed 22 = .ok (.iload_n 2, 1) := by decide +kernel
theorem dX4_feed_23 : decode cX4_feed 23 = .ok (.iconst 0, 1) := by decide +kernel
theorem dX4_feed_24 : decode cX4_feed 24 = .ok (.iconst 1, 1) := by decide +kernel
theorem dX4_feed_25 : decode cX4_feed 25 = .ok (.aload_n 0, 1) := by decide +kernel
theorem dX4_feed_26 : decode cX4_feed 26 = .ok (.iload_n 2, 1) := by decide +kernel
theorem dX4_feed_27 : decode cX4_feed 27 = .ok (.iconst 0, 1) := by decide +kernel
theorem dX4_feed_28 : decode cX4_feed 28 = .ok (.invokevirtual 48, 3) := by decide +kernel
theorem dX4_feed_31 : decode cX4_feed 31 = .ok (.iconst 1, 1) := by decide +kernel
theorem dX4_feed_32 : decode cX4_feed 32 = .ok (.isub, 1) := by decide +kernel
theorem dX4_feed_33 : decode cX4_feed 33 = .ok (.invokestatic 52, 3) := by decide +kernel
theorem dX4_feed_36 : decode cX4_feed 36 = .ok (.invokevirtual 77, 3) := by decide +kernel
theorem dX4_feed_39 : decode cX4_feed 39 = .ok (.aload_n 0, 1) := by decide +kernel
theorem dX4_feed_40 : decode cX4_feed 40 = .ok (.iload_n 2, 1) := by decide +kernel
theorem dX4_feed_41 : decode cX4_feed 41 = .ok (.iconst 2, 1) := by decide +kernel
theorem dX4_feed_42 : decode cX4_feed 42 = .ok (.aload_n 0, 1) := by decide +kernel
theorem dX4_feed_43 : decode cX4_feed 43 = .ok (.iload_n 2, 1) := by decide +kernel
theorem dX4_feed_44 : decode cX4_feed 44 = .ok (.iconst 2, 1) := by decide +kernel
theorem dX4_feed_45 : decode cX4_feed 45 = .ok (.invokevirtual 48, 3) := by decide +kernel
theorem dX4_feed_48 : decode cX4_feed 48 = .ok (.iconst 1, 1) := by decide +kernel
theorem dX4_feed_49 : decode cX4_feed 49 = .ok (.iadd, 1) := by decide +kernel
theorem dX4_feed_50 : decode cX4_feed 50 = .ok (.invokevirtual 77, 3) := by decide +kernel
theorem dX4_feed_53 : decode cX4_feed 53 = .ok (.aload_n 0, 1) := by decide +kernel
theorem dX4_feed_54 : decode cX4_feed 54 = .ok (.getfield 19, 3) := by decide +kernel
theorem dX4_feed_57 : decode cX4_feed 57 = .ok (.iconst 1, 1) := by decide +kernel
theorem dX4_feed_58 : decode cX4_feed 58 = .ok (.dup2, 1) := by decide +kernel
theorem dX4_feed_59 : decode cX4_feed 59 = .ok (.iaload, 1) := by decide +kernel
theorem dX4_feed_60 : decode cX4_feed 60 = .ok (.iconst 1, 1) := by decide +kernel
theorem dX4_feed_61 : decode cX4_feed 61 = .ok (.iadd, 1) := by decide +kernel
theorem dX4_feed_62 : decode cX4_feed 62 = .ok (.iastore, 1) := by decide +kernel
theorem dX4_feed_63 : decode cX4_feed 63 = .ok (.return_, 1) := by decide +kernel
set_option maxRecDepth 20000 in
theorem ggX4_move_X4_isIn_ : GoodIn wsX4_move wsX4_isIn_ := goodIn_r _ [15, 16, 17, 18, 19, 14, 20, 10, 58, 59, 60, 61, 62, 63, 64, 65, 66] (by decide +kernel) (by decide +kernel)
set_option maxRecDepth 20000 in
theorem gX4_move_X4_isIn_ : GoodIn wsX4_move (wsV RX4 67 RX4 yX4_isIn_ wsX4_isIn_) := goodIn_app (goodIn_of _ (by decide +kernel)) ggX4_move_X4_isIn_
set_option maxRecDepth 20000 in
theorem ggX4_move_X4_vi : GoodIn wsX4_move wsX4_vi := goodIn_r _ [20, 10, 58, 59, 60, 61, 62, 63, 64, 65, 66] (by decide +kernel) (by decide +kernel)
set_option maxRecDepth 20000 in
theorem gX4_move_X4_vi : GoodIn wsX4_move (wsV RX4 64 RX4 yX4_vi wsX4_vi) := goodIn_app (goodIn_of _ (by decide +kernel)) ggX4_move_X4_vi
set_option maxRecDepth 20000 in
theorem ggX4_move_X4_let : GoodIn wsX4_move wsX4_let := goodIn_r _ [24, 10, 58, 59, 60, 61, 62, 63, 64, 65, 66] (by decide +kernel) (by decide +kernel)
set_option maxRecDepth 20000 in
theorem gX4_move_X4_let : GoodIn wsX4_move (wsV RX4 73 RX4 yX4_let wsX4_let) := goodIn_app (goodIn_of _ (by decide +kernel)) ggX4_move_X4_let
set_option maxRecDepth 20000 in
theorem ggX4_move_X4_hiss : GoodIn wsX4_move wsX4_hiss := goodIn_r _ [28, 2, 29, 30, 31, 14, 32, 33, 34, 35, 36, 37, 10, 38, 39, 40, 41, 42, 7, 8, 5, 9, 58, 59, 60, 61, 62, 63, 64, 65, 66] (by decide +kernel) (by decide +kernel)
set_option maxRecDepth 20000 in
theorem gX4_move_X4_hiss : GoodIn wsX4_move (wsV RX4 70 RX4 yX4_hiss wsX4_hiss) := goodIn_app (goodIn_of _ (by decide +kernel)) ggX4_move_X4_hiss
set_option maxRecDepth 20000 in
theorem ggX4_move_X4_isAwake : GoodIn wsX4_move wsX4_isAwake := goodIn_r _ [32, 33, 34, 35, 36, 14, 37, 10, 58, 59, 60, 61, 62, 63, 64, 65, 66] (by decide +kernel) (by decide +kernel)
set_option maxRecDepth 20000 in
theorem gX4_move_X4_isAwake : GoodIn wsX4_move (wsV RX4 57 RX4 yX4_isAwake wsX4_isAwake) := goodIn_app (goodIn_of _ (by decide +kernel)) ggX4_move_X4_isAwake
set_option maxRecDepth 20000 in
theorem ggX4_move_X4_go : GoodIn wsX4_move wsX4_go := goodIn_r _ [37, 10, 58, 59, 60, 61, 62, 63, 64, 65, 66] (by decide +kernel) (by decide +kernel)
set_option maxRecDepth 20000 in
theorem gX4_move_X4_go : GoodIn wsX4_move (wsV RX4 48 RX4 yX4_go wsX4_go) := goodIn_app (goodIn_of _ (by decide +kernel)) ggX4_move_X4_go
set_option maxRecDepth 20000 in
theorem ggX4_move_X4_put : GoodIn wsX4_move wsX4_put := goodIn_r _ [46, 10, 58, 59, 60, 61, 62, 63, 64, 65, 66] (by decide +kernel) (by decide +kernel)
set_option maxRecDepth 20000 in
theorem gX4_move_X4_put : GoodIn wsX4_move (wsV RX4 77 RX4 yX4_put wsX4_put) := goodIn_app (goodIn_of _ (by decide +kernel)) ggX4_move_X4_put
set_option maxRecDepth 20000 in
theorem ggX4_move_X4_angriest : GoodIn wsX4_move wsX4_angriest := goodIn_r _ [50, 2, 29, 30, 31, 14, 32, 33, 34, 35, 36, 37, 10, 58, 59, 60, 61, 62, 63, 64, 65, 66] (by decide +kernel) (by decide +kernel)
set_option maxRecDepth 20000 in
theorem gX4_move_X4_angriest : GoodIn wsX4_move (wsV RX4 83 RX4 yX4_angriest wsX4_angriest) := goodIn_app (goodIn_of _ (by decide +kernel)) ggX4_move_X4_angriest
set_option maxRecDepth 20000 in
theorem ggX4_move_X4_feed : GoodIn wsX4_move wsX4_feed := goodIn_r _ [54, 7, 8, 5, 9, 10, 17, 18, 19, 14, 20, 21, 22, 23, 24, 43, 44, 45, 46, 34, 35, 36, 37, 58, 59, 60, 61, 62, 63, 64, 65, 66] (by decide +kernel) (by decide +kernel)
set_option maxRecDepth 20000 in
theorem gX4_move_X4_feed : GoodIn wsX4_move (wsV RX4 87 RX4 yX4_feed wsX4_feed) := goodIn_app (goodIn_of _ (by decide +kernel)) ggX4_move_X4_feed
set_option maxRecDepth 20000 in
theorem ggX4_move_X4_grade : GoodIn wsX4_move wsX4_grade := goodIn_r _ [57] (by decide +kernel) (by decide +kernel)
set_option maxRecDepth 20000 in
theorem gX4_move_X4_grade : GoodIn wsX4_move (va_wsS RX4 91 yX4_grade wsX4_grade) := goodIn_app (goodIn_of _ (by decide +kernel)) ggX4_move_X4_grade
theorem dX4_move_0 : decode cX4_move 0 = .ok (.aload_n 0, 1) := by decide +kernel
theorem dX4_move_1 : decode cX4_move 1 = .ok (.iload_n 1, 1) := by decide +kernel
theorem dX4_move_2 : decode cX4_move 2 = .ok (.invokevirtual 67, 3) := by decide +kernel
theorem dX4_move_5 : decode cX4_move 5 = .ok (.ifCond .eq 4, 3) := by decide +kernel
theorem dX4_move_8 : decode cX4_move 8 = .ok (.return_, 1) := by decide +kernel
theorem dX4_move_9 : decode cX4_move 9 = .ok (.aload_n 0, 1) := by decide +kernel
theorem dX4_move_10 : decode cX4_move 10 = .ok (.iload_n 1, 1) := by decide +kernel
theorem dX4_move_11 : decode cX4_move 11 = .ok (.iconst 3, 1) := by decide +kernel
theorem dX4_move_12 : decode cX4_move 12 = .ok (.invokevirtual 64, 3) := by decide +kernel
theorem dX4_move_15 : decode cX4_move 15 = .ok (.ifCond .le 18, 3) := by decide +kernel
theorem dX4_move_18 : decode cX4_move 18 = .ok (.aload_n 0, 1) := by decide +kernel
theorem dX4_move_19 : decode cX4_move 19 = .ok (.iload_n 1, 1) := by decide +kernel
theorem dX4_move_20 : decode cX4_move 20 = .ok (.iconst 3, 1) := by decide +kernel
theorem dX4_move_21 : decode cX4_move 21 = .ok (.aload_n 0, 1) := by decide +kernel
theorem dX4_move_22 : decode cX4_move 22 = .ok (.iload_n 1, 1) := by decide +kernel
theorem dX4_move_23 : decode cX4_move 23 = .ok (.iconst 3, 1) := by decide +kernel
theorem dX4_move_24 : decode cX4_move 24 = .ok (.invokevirtual 64, 3) := by decide +kernel
theorem dX4_move_27 : decode cX4_move 27 = .ok (.iconst 1, 1) := by decide +kernel
theorem dX4_move_28 : decode cX4_move 28 = .ok (.isub, 1) := by decide +kernel
theorem dX4_move_29 : decode cX4_move 29 = .ok (.invokevirtual 73, 3) := by decide +kernel
theorem dX4_move_32 : decode cX4_move 32 = .ok (.return_, 1) := by decide +kernel
theorem dX4_move_33 : decode cX4_move 33 = .ok (.aload_n 0, 1) := by decide +kernel
theorem dX4_move_34 : decode cX4_move 34 = .ok (.iload_n 1, 1) := by decide +kernel
theorem dX4_move_35 : decode cX4_move 35 = .ok (.iconst 0, 1) := by decide +kernel
theorem dX4_move_36 : decode cX4_move 36 = .ok (.invokevirtual 64, 3) := by decide +kernel
theorem dX4_move_39 : decode cX4_move 39 = .ok (.istore_n 2, 1) := by decide +kernel
theorem dX4_move_40 : decode cX4_move 40 = .ok (.aload_n 0, 1) := by decide +kernel
theorem dX4_move_41 : decode cX4_move 41 = .ok (.iload_n 2, 1) := by decide +kernel
theorem dX4_move_42 : decode cX4_move 42 = .ok (.aload_n 0, 1) := by decide +kernel
theorem dX4_move_43 : decode cX4_move 43 = .ok (.getfield 16, 3) := by decide +kernel
theorem dX4_move_46 : decode cX4_move 46 = .ok (.iload_n 1, 1) := by decide +kernel
theorem dX4_move_47 : decode cX4_move 47 = .ok (.iaload, 1) := by decide +kernel
theorem dX4_move_48 : decode cX4_move 48 = .ok (.invokevirtual 70, 3) := by decide +kernel
theorem dX4_move_51 : decode cX4_move 51 = .ok (.istore_n 3, 1) := by decide +kernel
theorem dX4_move_52 : decode cX4_move 52 = .ok (.iload_n 3, 1) := by decide +kernel
theorem dX4_move_53 : decode cX4_move 53 = .ok (.aload_n 0, 1) := by decide +kernel
theorem dX4_move_54 : decode cX4_move 54 = .ok (.iload_n 1, 1) := by decide +kernel
theorem dX4_move_55 : decode cX4_move 55 = .ok (.iconst 2, 1) := by decide +kernel
theorem dX4_move_56 : decode cX4_move 56 = .ok (.invokevirtual 64, 3) := by decide +kernel
theorem dX4_move_59 : decode cX4_move 59 = .ok (.if_icmp .gt 64, 3) := by decide +kernel
theorem dX4_move_62 : decode cX4_move 62 = .ok (.aload_n 0, 1) := by decide +kernel
theorem dX4_move_63 : decode cX4_move 63 = .ok (.iload_n 1, 1) := by decide +kernel
theorem dX4_move_64 : decode cX4_move 64 = .ok (.iconst 0, 1) := by decide +kernel
theorem dX4_move_65 : decode cX4_move 65 = .ok (.iload_n 2, 1) := by decide +kernel
theorem dX4_move_66 : decode cX4_move 66 = .ok (.iconst 1, 1) := by decide +kernel
theorem dX4_move_67 : decode cX4_move 67 = .ok (.iadd, 1) := by decide +kernel
theorem dX4_move_68 : decode cX4_move 68 = .ok (.invokevirtual 73, 3) := by decide +kernel
theorem dX4_move_71 : decode cX4_move 71 = .ok (.iconst 0, 1) := by decide +kernel
theorem dX4_move_72 : decode cX4_move 72 = .ok (.istore 4, 2) := by decide +kernel
theorem dX4_move_74 : decode cX4_move 74 = .ok (.iload 4, 2) := by decide +kernel
theorem dX4_move_76 : decode cX4_move 76 = .ok (.aload_n 0, 1) := by decide +kernel
theorem dX4_move_77 : decode cX4_move 77 = .ok (.getfield 36, 3) := by decide +kernel
theorem dX4_move_80 : decode cX4_move 80 = .ok (.if_icmp .ge 40, 3) := by decide +kernel
theorem dX4_move_83 : decode cX4_move 83 = .ok (.aload_n 0, 1) := by decide +kernel
theorem dX4_move_84 : decode cX4_move 84 = .ok (.iload 4, 2) := by decide +kernel
theorem dX4_move_86 : decode cX4_move 86 = .ok (.iload_n 2, 1) := by decide +kernel
theorem dX4_move_87 : decode cX4_move 87 = .ok (.invokevirtual 57, 3) := by decide +kernel
theorem dX4_move_90 : decode cX4_move 90 = .ok (.ifCond .eq 24, 3) := by decide +kernel
theorem dX4_move_93 : decode cX4_move 93 = .ok (.aload_n 0, 1) := by decide +kernel
theorem dX4_move_94 : decode cX4_move 94 = .ok (.iload 4, 2) := by decide +kernel
theorem dX4_move_96 : decode cX4_move 96 = .ok (.iconst 0, 1) := by decide +kernel
theorem dX4_move_97 : decode cX4_move 97 = .ok (.bipush 9, 2) := by decide +kernel
theorem dX4_move_99 : decode cX4_move 99 = .ok (.aload_n 0, 1) := by decide +kernel
theorem dX4_move_100 : decode cX4_move 100 = .ok (.iload 4, 2) := by decide +kernel
theorem dX4_move_102 : decode cX4_move 102 = .ok (.iconst 0, 1) := by decide +kernel
theorem dX4_move_103 : decode cX4_move 103 = .ok (.invokevirtual 48, 3) := by decide +kernel
theorem dX4_move_106 : decode cX4_move 106 = .ok (.iconst 1, 1) := by decide +kernel
theorem dX4_move_107 : decode cX4_move 107 = .ok (.iadd, 1) := by decide +kernel
theorem dX4_move_108 : decode cX4_move 108 = .ok (.invokestatic 80, 3) := by decide +kernel
theorem dX4_move_111 : decode cX4_move 111 = .ok (.invokevirtual 77, 3) := by decide +kernel
theorem dX4_move_114 : decode cX4_move 114 = .ok (.iinc 4 1, 3) := by decide +kernel
theorem dX4_move_117 : decode cX4_move 117 = .ok (.goto (-43), 3) := by decide +kernel
theorem dX4_move_120 : decode cX4_move 120 = .ok (.goto 77, 3) := by decide +kernel
theorem dX4_move_123 : decode cX4_move 123 = .ok (.aload_n 0, 1) := by decide +kernel
theorem dX4_move_124 : decode cX4_move 124 = .ok (.iload_n 1, 1) := by decide +kernel
theorem dX4_move_125 : decode cX4_move 125 = .ok (.iconst 1, 1) := by decide +kernel
theorem dX4_move_126 : decode cX4_move 126 = .ok (.invokevirtual 64, 3) := by decide +kernel
theorem dX4_move_129 : decode cX4_move 129 = .ok (.ifCond .le 16, 3) := by decide +kernel
theorem dX4_move_132 : decode cX4_move 132 = .ok (.aload_n 0, 1) := by decide +kernel
theorem dX4_move_133 : decode cX4_move 133 = .ok (.iload_n 1, 1) := by decide +kernel
theorem dX4_move_134 : decode cX4_move 134 = .ok (.aload_n 0, 1) := by decide +kernel
theorem dX4_move_135 : decode cX4_move 135 = .ok (.iload_n 2, 1) := by decide +kernel
theorem dX4_move_136 : decode cX4_move 136 = .ok (.invokevirtual 83, 3) := by decide +kernel
theorem dX4_move_139 : decode cX4_move 139 = .ok (.invokevirtual 87, 3) := by decide +kernel
theorem dX4_move_142 : decode cX4_move 142 = .ok (.goto 55, 3) := by decide +kernel
theorem dX4_move_145 : decode cX4_move 145 = .ok (.aload_n 0, 1) := by decide +kernel
theorem dX4_move_146 : decode cX4_move 146 = .ok (.iload_n 1, 1) := by decide +kernel
theorem dX4_move_147 : decode cX4_move 147 = .ok (.iconst 3, 1) := by decide +kernel
theorem dX4_move_148 : decode cX4_move 148 = .ok (.iload_n 3, 1) := by decide +kernel
theorem dX4_move_149 : decode cX4_move 149 = .ok (.invokestatic 91, 3) := by decide +kernel
theorem dX4_move_152 : decode cX4_move 152 = .ok (.invokevirtual 73, 3) := by decide +kernel
theorem dX4_move_155 : decode cX4_move 155 = .ok (.aload_n 0, 1) := by decide +kernel
theorem dX4_move_156 : decode cX4_move 156 = .ok (.iload_n 1, 1) := by decide +kernel
theorem dX4_move_157 : decode cX4_move 157 = .ok (.iconst 2, 1) := by decide +kernel
theorem dX4_move_158 : decode cX4_move 158 = .ok (.bipush 20, 2) := by decide +kernel
theorem dX4_move_160 : decode cX4_move 160 = .ok (.aload_n 0, 1) := by decide +kernel
theorem dX4_move_161 : decode cX4_move 161 = .ok (.iload_n 1, 1) := by decide +kernel
theorem dX4_move_162 : decode cX4_move 162 = .ok (.iconst 2, 1) := by decide +kernel
theorem dX4_move_163 : decode cX4_move 163 = .ok (.invokevirtual 64, 3) := by decide +kernel
theorem dX4_move_166 : decode cX4_move 166 = .ok (.iconst 1, 1) := by decide +kernel
theorem dX4_move_167 : decode cX4_move 167 = .ok (.iadd, 1) := by decide +kernel
theorem dX4_move_168 : decode cX4_move 168 = .ok (.invokestatic 80, 3) := by decide +kernel
theorem dX4_move_171 : decode cX4_move 171 = .ok (.invokevirtual 73, 3) := by decide +kernel
theorem dX4_move_174 : decode cX4_move 174 = .ok (.aload_n 0, 1) := by decide +kernel
theorem dX4_move_175 : decode cX4_move 175 = .ok (.iload_n 1, 1) := by decide +kernel
theorem dX4_move_176 : decode cX4_move 176 = .ok (.iconst 0, 1) := by decide +kernel
theorem dX4_move_177 : decode cX4_move 177 = .ok (.iconst 0, 1) := by decide +kernel
theorem dX4_move_178 : decode cX4_move 178 = .ok (.iload_n 2, 1) := by decide +kernel
theorem dX4_move_179 : decode cX4_move 179 = .ok (.iconst 1, 1) := by decide +kernel
theorem dX4_move_180 : decode cX4_move 180 = .ok (.isub, 1) := by decide +kernel
theorem dX4_move_181 : decode cX4_move 181 = .ok (.invokestatic 52, 3) := by decide +kernel
theorem dX4_move_184 : decode cX4_move 184 = .ok (.invokevirtual 73, 3) := by decide +kernel
theorem dX4_move_187 : decode cX4_move 187 = .ok (.aload_n 0, 1) := by decide +kernel
theorem dX4_move_188 : decode cX4_move 188 = .ok (.getfield 19, 3) := by decide +kernel
theorem dX4_move_191 : decode cX4_move 191 = .ok (.iconst 2, 1) := by decide +kernel
theorem dX4_move_192 : decode cX4_move 192 = .ok (.dup2, 1) := by decide +kernel
theorem dX4_move_193 : decode cX4_move 193 = .ok (.iaload, 1) := by decide +kernel
theorem dX4_move_194 : decode cX4_move 194 = .ok (.iconst 1, 1) := by decide +kernel
theorem dX4_move_195 : decode cX4_move 195 = .ok (.iadd, 1) := by decide +kernel
theorem dX4_move_196 : decode cX4_move 196 = .ok (.iastore, 1) := by decide +kernel
theorem dX4_move_197 : decode cX4_move 197 = .ok (.return_, 1) := by decide +kernel
set_option maxRecDepth 20000 in
theorem ggX4_beatOn_X4_go : GoodIn wsX4_beatOn wsX4_go := goodIn_r _ [8, 3, 63, 64, 65, 66, 67, 68, 69, 70, 71] (by decide +kernel) (by decide +kernel)
set_option maxRecDepth 20000 in
theorem gX4_beatOn_X4_go : GoodIn wsX4_beatOn (wsV RX4 48 RX4 yX4_go wsX4_go) := goodIn_app (goodIn_of _ (by decide +kernel)) ggX4_beatOn_X4_go
set_option maxRecDepth 20000 in
theorem ggX4_beatOn_X4_put : GoodIn wsX4_beatOn wsX4_put := goodIn_r _ [12, 3, 63, 64, 65, 66, 67, 68, 69, 70, 71] (by decide +kernel) (by decide +kernel)
set_option maxRecDepth 20000 in
theorem gX4_beatOn_X4_put : GoodIn wsX4_beatOn (wsV RX4 77 RX4 yX4_put wsX4_put) := goodIn_app (goodIn_of _ (by decide +kernel)) ggX4_beatOn_X4_put
set_option maxRecDepth 20000 in
theorem ggX4_beatOn_X4_move : GoodIn wsX4_beatOn wsX4_move := goodIn_r _ [16, 17, 1, 18, 19, 20, 21, 22, 23, 24, 3, 25, 26, 27, 7, 28, 29, 30, 31, 32, 33, 34, 35, 36, 37, 38, 39, 40, 41, 42, 43, 44, 45, 46, 4, 5, 6, 8, 47, 48, 49, 50, 51, 9, 10, 11, 12, 52, 53, 54, 55, 56, 57, 58, 59, 60, 61, 62, 63, 64, 65, 66, 67, 68, 69, 70, 71] (by decide +kernel) (by decide +kernel)
set_option maxRecDepth 20000 in
theorem gX4_beatOn_X4_move : GoodIn wsX4_beatOn (wsV RX4 94 RX4 yX4_move wsX4_move) := goodIn_app (goodIn_of _ (by decide +kernel)) ggX4_beatOn_X4_move
theorem dX4_beatOn_0 : decode cX4_beatOn 0 = .ok (.iconst 0, 1) := by decide +kernel
theorem dX4_beatOn_1 : decode cX4_beatOn 1 = .ok (.istore_n 1, 1) := by decide +kernel
theorem dX4_beatOn_2 : decode cX4_beatOn 2 = .ok (.iload_n 1, 1) := by decide +kernel
theorem dX4_beatOn_3 : decode cX4_beatOn 3 = .ok (.aload_n 0, 1) := by decide +kernel
theorem dX4_beatOn_4 : decode cX4_beatOn 4 = .ok (.getfield 36, 3) := by decide +kernel
theorem dX4_beatOn_7 : decode cX4_beatOn 7 = .ok (.if_icmp .ge 32, 3) := by decide +kernel
theorem dX4_beatOn_10 : decode cX4_beatOn 10 = .ok (.aload_n 0, 1) := by decide +kernel
theorem dX4_beatOn_11 : decode cX4_beatOn 11 = .ok (.iload_n 1, 1) := by decide +kernel
theorem dX4_beatOn_12 : decode cX4_beatOn 12 = .ok (.iconst 1, 1) := by decide +kernel
theorem dX4_beatOn_13 : decode cX4_beatOn 13 = .ok (.invokevirtual 48, 3) := by decide +kernel
theorem dX4_beatOn_16 : decode cX4_beatOn 16 = .ok (.ifCond .le 17, 3) := by decide +kernel
theorem dX4_beatOn_19 : decode cX4_beatOn 19 = .ok (.aload_n 0, 1) := by decide +kernel
theorem dX4_beatOn_20 : decode cX4_beatOn 20 = .ok (.iload_n 1, 1) := by decide +kernel
theorem dX4_beatOn_21 : decode cX4_beatOn 21 = .ok (.iconst 1, 1) := by decide +kernel
theorem dX4_beatOn_22 : decode cX4_beatOn 22 = .ok (.aload_n 0, 1) := by decide +kernel
theorem dX4_beatOn_23 : decode cX4_beatOn 23 = .ok (.iload_n 1, 1) := by decide +kernel
theorem dX4_beatOn_24 : decode cX4_beatOn 24 = .ok (.iconst 1, 1) := by decide +kernel
theorem dX4_beatOn_25 : decode cX4_beatOn 25 = .ok (.invokevirtual 48, 3) := by decide +kernel
theorem dX4_beatOn_28 : decode cX4_beatOn 28 = .ok (.iconst 1, 1) := by decide +kernel
theorem dX4_beatOn_29 : decode cX4_beatOn 29 = .ok (.isub, 1) := by decide +kernel
theorem dX4_beatOn_30 : decode cX4_beatOn 30 = .ok (.invokevirtual 77, 3) := by decide +kernel
theorem dX4_beatOn_33 : decode cX4_beatOn 33 = .ok (.iinc 1 1, 3) := by decide +kernel
theorem dX4_beatOn_36 : decode cX4_beatOn 36 = .ok (.goto (-34), 3) := by decide +kernel
theorem dX4_beatOn_39 : decode cX4_beatOn 39 = .ok (.iconst 0, 1) := by decide +kernel
theorem dX4_beatOn_40 : decode cX4_beatOn 40 = .ok (.istore_n 1, 1) := by decide +kernel
theorem dX4_beatOn_41 : decode cX4_beatOn 41 = .ok (.iload_n 1, 1) := by decide +kernel
theorem dX4_beatOn_42 : decode cX4_beatOn 42 = .ok (.aload_n 0, 1) := by decide +kernel
theorem dX4_beatOn_43 : decode cX4_beatOn 43 = .ok (.getfield 39, 3) := by decide +kernel
theorem dX4_beatOn_46 : decode cX4_beatOn 46 = .ok (.if_icmp .ge 14, 3) := by decide +kernel
theorem dX4_beatOn_49 : decode cX4_beatOn 49 = .ok (.aload_n 0, 1) := by decide +kernel
theorem dX4_beatOn_50 : decode cX4_beatOn 50 = .ok (.iload_n 1, 1) := by decide +kernel
theorem dX4_beatOn_51 : decode cX4_beatOn 51 = .ok (.invokevirtual 94, 3) := by decide +kernel
theorem dX4_beatOn_54 : decode cX4_beatOn 54 = .ok (.iinc 1 1, 3) := by decide +kernel
theorem dX4_beatOn_57 : decode cX4_beatOn 57 = .ok (.goto (-16), 3) := by decide +kernel
theorem dX4_beatOn_60 : decode cX4_beatOn 60 = .ok (.aload_n 0, 1) := by decide +kernel
theorem dX4_beatOn_61 : decode cX4_beatOn 61 = .ok (.getfield 19, 3) := by decide +kernel
theorem dX4_beatOn_64 : decode cX4_beatOn 64 = .ok (.iconst 0, 1) := by decide +kernel
theorem dX4_beatOn_65 : decode cX4_beatOn 65 = .ok (.dup2, 1) := by decide +kernel
theorem dX4_beatOn_66 : decode cX4_beatOn 66 = .ok (.iaload, 1) := by decide +kernel
theorem dX4_beatOn_67 : decode cX4_beatOn 67 = .ok (.iconst 1, 1) := by decide +kernel
theorem dX4_beatOn_68 : decode cX4_beatOn 68 = .ok (.iadd, 1) := by decide +kernel
theorem dX4_beatOn_69 : decode cX4_beatOn 69 = .ok (.iastore, 1) := by decide +kernel
theorem dX4_beatOn_70 : decode cX4_beatOn 70 = .ok (.return_, 1) := by decide +kernel
set_option maxRecDepth 20000 in
theorem ggX4_beatsOn_X4_beatOn : GoodIn wsX4_beatsOn wsX4_beatOn := goodIn_r _ [5, 6, 7, 8, 9, 10, 11, 4, 12, 13, 14, 15, 16, 17, 18, 19, 20, 21, 22, 23, 24, 25, 26, 27, 28, 29, 30, 31, 32, 33, 34, 35, 36, 37, 38, 39, 40, 41, 42, 43, 44, 45, 46, 47, 48, 49, 50, 51, 52, 53, 54, 55, 56, 57, 58, 59, 60, 61, 62, 63, 64, 65, 66, 67, 68, 69, 70, 71, 72, 73, 74, 75] (by decide +kernel) (by decide +kernel)
set_option maxRecDepth 20000 in
theorem gX4_beatsOn_X4_beatOn : GoodIn wsX4_beatsOn (wsV RX4 98 RX4 yX4_beatOn wsX4_beatOn) := goodIn_app (goodIn_of _ (by decide +kernel)) ggX4_beatsOn_X4_beatOn
theorem dX4_beatsOn_0 : decode cX4_beatsOn 0 = .ok (.iconst 0, 1) := by decide +kernel
theorem dX4_beatsOn_1 : decode cX4_beatsOn 1 = .ok (.istore_n 2, 1) := by decide +kernel
theorem dX4_beatsOn_2 : decode cX4_beatsOn 2 = .ok (.iload_n 2, 1) := by decide +kernel
theorem dX4_beatsOn_3 : decode cX4_beatsOn 3 = .ok (.iload_n 1, 1) := by decide +kernel
theorem dX4_beatsOn_4 : decode cX4_beatsOn 4 = .ok (.if_icmp .ge 13, 3) := by decide +kernel
theorem dX4_beatsOn_7 : decode cX4_beatsOn 7 = .ok (.aload_n 0, 1) := by decide +kernel
theorem dX4_beatsOn_8 : decode cX4_beatsOn 8 = .ok (.invokevirtual 98, 3) := by decide +kernel
theorem dX4_beatsOn_11 : decode cX4_beatsOn 11 = .ok (.iinc 2 1, 3) := by decide +kernel
theorem dX4_beatsOn_14 : decode cX4_beatsOn 14 = .ok (.goto (-12), 3) := by decide +kernel
theorem dX4_beatsOn_17 : decode cX4_beatsOn 17 = .ok (.return_, 1) := by decide +kernel
set_option maxRecDepth 20000 in
theorem ggX4_inside_X4_isIn_ : GoodIn wsX4_inside wsX4_isIn_ := goodIn_r _ [6, 7, 8, 9, 10, 5, 11, 12, 13, 14, 15, 16, 17, 18, 19, 20, 21] (by decide +kernel) (by decide +kernel)
set_option maxRecDepth 20000 in
theorem gX4_inside_X4_isIn_ : GoodIn wsX4_inside (wsV RX4 67 RX4 yX4_isIn_ wsX4_isIn_) := goodIn_app (goodIn_of _ (by decide +kernel)) ggX4_inside_X4_isIn_
theorem dX4_inside_0 : decode cX4_inside 0 = .ok (.iconst 0, 1) := by decide +kernel
theorem dX4_inside_1 : decode cX4_inside 1 = .ok (.istore_n 1, 1) := by decide +kernel
theorem dX4_inside_2 : decode cX4_inside 2 = .ok (.iconst 0, 1) := by decide +kernel
theorem dX4_inside_3 : decode cX4_inside 3 = .ok (.istore_n 2, 1) := by decide +kernel
theorem dX4_inside_4 : decode cX4_inside 4 = .ok (.iload_n 2, 1) := by decide +kernel
theorem dX4_inside_5 : decode cX4_inside 5 = .ok (.aload_n 0, 1) := by decide +kernel
theorem dX4_inside_6 : decode cX4_inside 6 = .ok (.getfield 39, 3) := by decide +kernel
theorem dX4_inside_9 : decode cX4_inside 9 = .ok (.if_icmp .ge 25, 3) := by decide +kernel
theorem dX4_inside_12 : decode cX4_inside 12 = .ok (.iload_n 1, 1) := by decide +kernel
theorem dX4_inside_13 : decode cX4_inside 13 = .ok (.aload_n 0, 1) := by decide +kernel
theorem dX4_inside_14 : decode cX4_inside 14 = .ok (.iload_n 2, 1) := by decide +kernel
theorem dX4_inside_15 : decode cX4_inside 15 = .ok (.invokevirtual 67, 3) := by decide +kernel
theorem dX4_inside_18 : decode cX4_inside 18 = .ok (.ifCond .eq 7, 3) := by decide +kernel
theorem dX4_inside_21 : decode cX4_inside 21 = .ok (.iconst 1, 1) := by decide +kernel
theorem dX4_inside_22 : decode cX4_inside 22 = .ok (.goto 4, 3) := by decide +kernel
theorem dX4_inside_25 : decode cX4_inside 25 = .ok (.iconst 0, 1) := by decide +kernel
theorem dX4_inside_26 : decode cX4_inside 26 = .ok (.iadd, 1) := by decide +kernel
theorem dX4_inside_27 : decode cX4_inside 27 = .ok (.istore_n 1, 1) := by decide +kernel
theorem dX4_inside_28 : decode cX4_inside 28 = .ok (.iinc 2 1, 3) := by decide +kernel
theorem dX4_inside_31 : decode cX4_inside 31 = .ok (.goto (-27), 3) := by decide +kernel
theorem dX4_inside_34 : decode cX4_inside 34 = .ok (.iload_n 1, 1) := by decide +kernel
theorem dX4_inside_35 : decode cX4_inside 35 = .ok (.ireturn, 1) := by decide +kernel
set_option maxRecDepth 20000 in
theorem ggX4_addGate_X4_isIn : GoodIn wsX4_addGate wsX4_isIn := goodIn_r _ [8] (by decide +kernel) (by decide +kernel)
set_option maxRecDepth 20000 in
theorem gX4_addGate_X4_isIn : GoodIn wsX4_addGate (va_wsS RX4 32 yX4_isIn wsX4_isIn) := goodIn_app (goodIn_of _ (by decide +kernel)) ggX4_addGate_X4_isIn
set_option maxRecDepth 20000 in
theorem ggX4_addGate_X4_fail : GoodIn wsX4_addGate wsX4_fail := goodIn_r _ [12, 1, 13, 14, 15, 16, 17, 18, 19, 20, 21] (by decide +kernel) (by decide +kernel)
set_option maxRecDepth 20000 in
theorem gX4_addGate_X4_fail : GoodIn wsX4_addGate (wsV RX4 101 RX4 yX4_fail wsX4_fail) := goodIn_app (goodIn_of _ (by decide +kernel)) ggX4_addGate_X4_fail
theorem dX4_addGate_0 : decode cX4_addGate 0 = .ok (.aload_n 0, 1) := by decide +kernel
theorem dX4_addGate_1 : decode cX4_addGate 1 = .ok (.iconst 0, 1) := by decide +kernel
theorem dX4_addGate_2 : decode cX4_addGate 2 = .ok (.putfield 25, 3) := by decide +kernel
theorem dX4_addGate_5 : decode cX4_addGate 5 = .ok (.iload_n 1, 1) := by decide +kernel
theorem dX4_addGate_6 : decode cX4_addGate 6 = .ok (.iconst 0, 1) := by decide +kernel
theorem dX4_addGate_7 : decode cX4_addGate 7 = .ok (.bipush 9, 2) := by decide +kernel
theorem dX4_addGate_9 : decode cX4_addGate 9 = .ok (.invokestatic 32, 3) := by decide +kernel
theorem dX4_addGate_12 : decode cX4_addGate 12 = .ok (.ifCond .ne 9, 3) := by decide +kernel
theorem dX4_addGate_15 : decode cX4_addGate 15 = .ok (.aload_n 0, 1) := by decide +kernel
theorem dX4_addGate_16 : decode cX4_addGate 16 = .ok (.iconst 1, 1) := by decide +kernel
theorem dX4_addGate_17 : decode cX4_addGate 17 = .ok (.invokevirtual 101, 3) := by decide +kernel
theorem dX4_addGate_20 : decode cX4_addGate 20 = .ok (.ireturn, 1) := by decide +kernel
theorem dX4_addGate_21 : decode cX4_addGate 21 = .ok (.aload_n 0, 1) := by decide +kernel
theorem dX4_addGate_22 : decode cX4_addGate 22 = .ok (.getfield 29, 3) := by decide +kernel
theorem dX4_addGate_25 : decode cX4_addGate 25 = .ok (.bipush 6, 2) := by decide +kernel
theorem dX4_addGate_27 : decode cX4_addGate 27 = .ok (.if_icmp .eq 10, 3) := by decide +kernel
theorem dX4_addGate_30 : decode cX4_addGate 30 = .ok (.aload_n 0, 1) := by decide +kernel
theorem dX4_addGate_31 : decode cX4_addGate 31 = .ok (.getfield 39, 3) := by decide +kernel
theorem dX4_addGate_34 : decode cX4_addGate 34 = .ok (.ifCond .le 9, 3) := by decide +kernel
theorem dX4_addGate_37 : decode cX4_addGate 37 = .ok (.aload_n 0, 1) := by decide +kernel
theorem dX4_addGate_38 : decode cX4_addGate 38 = .ok (.iconst 2, 1) := by decide +kernel
theorem dX4_addGate_39 : decode cX4_addGate 39 = .ok (.invokevirtual 101, 3) := by decide +kernel
theorem dX4_addGate_42 : decode cX4_addGate 42 = .ok (.ireturn, 1) := by decide +kernel
theorem dX4_addGate_43 : decode cX4_addGate 43 = .ok (.aload_n 0, 1) := by decide +kernel
theorem dX4_addGate_44 : decode cX4_addGate 44 = .ok (.getfield 9, 3) := by decide +kernel
theorem dX4_addGate_47 : decode cX4_addGate 47 = .ok (.aload_n 0, 1) := by decide +kernel
theorem dX4_addGate_48 : decode cX4_addGate 48 = .ok (.getfield 29, 3) := by decide +kernel
theorem dX4_addGate_51 : decode cX4_addGate 51 = .ok (.iload_n 1, 1) := by decide +kernel
theorem dX4_addGate_52 : decode cX4_addGate 52 = .ok (.iastore, 1) := by decide +kernel
theorem dX4_addGate_53 : decode cX4_addGate 53 = .ok (.aload_n 0, 1) := by decide +kernel
theorem dX4_addGate_54 : decode cX4_addGate 54 = .ok (.dup, 1) := by decide +kernel
theorem dX4_addGate_55 : decode cX4_addGate 55 = .ok (.getfield 29, 3) := by decide +kernel
theorem dX4_addGate_58 : decode cX4_addGate 58 = .ok (.iconst 1, 1) := by decide +kernel
theorem dX4_addGate_59 : decode cX4_addGate 59 = .ok (.iadd, 1) := by decide +kernel
theorem dX4_addGate_60 : decode cX4_addGate 60 = .ok (.putfield 29, 3) := by decide +kernel
theorem dX4_addGate_63 : decode cX4_addGate 63 = .ok (.aload_n 0, 1) := by decide +kernel
theorem dX4_addGate_64 : decode cX4_addGate 64 = .ok (.getfield 29, 3) := by decide +kernel
theorem dX4_addGate_67 : decode cX4_addGate 67 = .ok (.iconst 1, 1) := by decide +kernel
theorem dX4_addGate_68 : decode cX4_addGate 68 = .ok (.isub, 1) := by decide +kernel
theorem dX4_addGate_69 : decode cX4_addGate 69 = .ok (.ireturn, 1) := by decide +kernel
set_option maxRecDepth 20000 in
theorem ggX4_addGoose_X4_isGate : GoodIn wsX4_addGoose wsX4_isGate := goodIn_r _ [8, 9, 10, 11, 7, 12, 22, 23, 24, 25, 26, 27, 28, 29, 30] (by decide +kernel) (by decide +kernel)
set_option maxRecDepth 20000 in
theorem gX4_addGoose_X4_isGate : GoodIn wsX4_addGoose (wsV RX4 104 RX4 yX4_isGate wsX4_isGate) := goodIn_app (goodIn_of _ (by decide +kernel)) ggX4_addGoose_X4_isGate
set_option maxRecDepth 20000 in
theorem ggX4_addGoose_X4_fail : GoodIn wsX4_addGoose wsX4_fail := goodIn_r _ [16, 1, 22, 23, 24, 25, 26, 27, 28, 29, 30] (by decide +kernel) (by decide +kernel)
set_option maxRecDepth 20000 in
theorem gX4_addGoose_X4_fail : GoodIn wsX4_addGoose (wsV RX4 101 RX4 yX4_fail wsX4_fail) := goodIn_app (goodIn_of _ (by decide +kernel)) ggX4_addGoose_X4_fail
set_option maxRecDepth 20000 in
theorem ggX4_addGoose_X4_isIn : GoodIn wsX4_addGoose wsX4_isIn := goodIn_r _ [12] (by decide +kernel) (by decide +kernel)
set_option maxRecDepth 20000 in
theorem gX4_addGoose_X4_isIn : GoodIn wsX4_addGoose (va_wsS RX4 32 yX4_isIn wsX4_isIn) := goodIn_app (goodIn_of _ (by decide +kernel)) ggX4_addGoose_X4_isIn
set_option maxRecDepth 20000 in
theorem ggX4_addGoose_X4_put : GoodIn wsX4_addGoose wsX4_put := goodIn_r _ [20, 21, 22, 23, 24, 25, 26, 27, 28, 29, 30] (by decide +kernel) (by decide +kernel)
set_option maxRecDepth 20000 in
theorem gX4_addGoose_X4_put : GoodIn wsX4_addGoose (wsV RX4 77 RX4 yX4_put wsX4_put) := goodIn_app (goodIn_of _ (by decide +kernel)) ggX4_addGoose_X4_put
theorem dX4_addGoose_0 : decode cX4_addGoose 0 = .ok (.aload_n 0, 1) := by decide +kernel
theorem dX4_addGoose_1 : decode cX4_addGoose 1 = .ok (.iconst 0, 1) := by decide +kernel
theorem dX4_addGoose_2 : decode cX4_addGoose 2 = .ok (.putfield 25, 3) := by decide +kernel
theorem dX4_addGoose_5 : decode cX4_addGoose 5 = .ok (.aload_n 0, 1) := by decide +kernel
theorem dX4_addGoose_6 : decode cX4_addGoose 6 = .ok (.iload_n 1, 1) := by decide +kernel
theorem dX4_addGoose_7 : decode cX4_addGoose 7 = .ok (.invokevirtual 104, 3) := by decide +kernel
theorem dX4_addGoose_10 : decode cX4_addGoose 10 = .ok (.ifCond .ne 9, 3) := by decide +kernel
theorem dX4_addGoose_13 : decode cX4_addGoose 13 = .ok (.aload_n 0, 1) := by decide +kernel
theorem dX4_addGoose_14 : decode cX4_addGoose 14 = .ok (.iconst 1, 1) := by decide +kernel
theorem dX4_addGoose_15 : decode cX4_addGoose 15 = .ok (.invokevirtual 101, 3) := by decide +kernel
theorem dX4_addGoose_18 : decode cX4_addGoose 18 = .ok (.ireturn, 1) := by decide +kernel
theorem dX4_addGoose_19 : decode cX4_addGoose 19 = .ok (.iload_n 2, 1) := by decide +kernel
theorem dX4_addGoose_20 : decode cX4_addGoose 20 = .ok (.iconst 1, 1) := by decide +kernel
theorem dX4_addGoose_21 : decode cX4_addGoose 21 = .ok (.bipush 9, 2) := by decide +kernel
theorem dX4_addGoose_23 : decode cX4_addGoose 23 = .ok (.invokestatic 32, 3) := by decide +kernel
theorem dX4_addGoose_26 : decode cX4_addGoose 26 = .ok (.ifCond .ne 9, 3) := by decide +kernel
theorem dX4_addGoose_29 : decode cX4_addGoose 29 = .ok (.aload_n 0, 1) := by decide +kernel
theorem dX4_addGoose_30 : decode cX4_addGoose 30 = .ok (.iconst 2, 1) := by decide +kernel
theorem dX4_addGoose_31 : decode cX4_addGoose 31 = .ok (.invokevirtual 101, 3) := by decide +kernel
theorem dX4_addGoose_34 : decode cX4_addGoose 34 = .ok (.ireturn, 1) := by decide +kernel
theorem dX4_addGoose_35 : decode cX4_addGoose 35 = .ok (.aload_n 0, 1) := by decide +kernel
theorem dX4_addGoose_36 : decode cX4_addGoose 36 = .ok (.getfield 36, 3) := by decide +kernel
theorem dX4_addGoose_39 : decode cX4_addGoose 39 = .ok (.bipush 8, 2) := by decide +kernel
theorem dX4_addGoose_41 : decode cX4_addGoose 41 = .ok (.if_icmp .ne 9, 3) := by decide +kernel
theorem dX4_addGoose_44 : decode cX4_addGoose 44 = .ok (.aload_n 0, 1) := by decide +kernel
theorem dX4_addGoose_45 : decode cX4_addGoose 45 = .ok (.iconst 3, 1) := by decide +kernel
theorem dX4_addGoose_46 : decode cX4_addGoose 46 = .ok (.invokevirtual 101, 3) := by decide +kernel
theorem dX4_addGoose_49 : decode cX4_addGoose 49 = .ok (.ireturn, 1) := by decide +kernel
theorem dX4_addGoose_50 : decode cX4_addGoose 50 = .ok (.aload_n 0, 1) := by decide +kernel
theorem dX4_addGoose_51 : decode cX4_addGoose 51 = .ok (.getfield 13, 3) := by decide +kernel
theorem dX4_addGoose_54 : decode cX4_addGoose 54 = .ok (.aload_n 0, 1) := by decide +kernel
theorem dX4_addGoose_55 : decode cX4_addGoose 55 = .ok (.getfield 36, 3) := by decide +kernel
theorem dX4_addGoose_58 : decode cX4_addGoose 58 = .ok (.iload_n 1, 1) := by decide +kernel
theorem dX4_addGoose_59 : decode cX4_addGoose 59 = .ok (.iastore, 1) := by decide +kernel
theorem dX4_addGoose_60 : decode cX4_addGoose 60 = .ok (.aload_n 0, 1) := by decide +kernel
theorem dX4_addGoose_61 : decode cX4_addGoose 61 = .ok (.aload_n 0, 1) := by decide +kernel
theorem dX4_addGoose_62 : decode cX4_addGoose 62 = .ok (.getfield 36, 3) := by decide +kernel
theorem dX4_addGoose_65 : decode cX4_addGoose 65 = .ok (.iconst 0, 1) := by decide +kernel
theorem dX4_addGoose_66 : decode cX4_addGoose 66 = .ok (.iload_n 2, 1) := by decide +kernel
theorem dX4_addGoose_67 : decode cX4_addGoose 67 = .ok (.invokevirtual 77, 3) := by decide +kernel
theorem dX4_addGoose_70 : decode cX4_addGoose 70 = .ok (.aload_n 0, 1) := by decide +kernel
theorem dX4_addGoose_71 : decode cX4_addGoose 71 = .ok (.dup, 1) := by decide +kernel
theorem dX4_addGoose_72 : decode cX4_addGoose 72 = .ok (.getfield 36, 3) := by decide +kernel
theorem dX4_addGoose_75 : decode cX4_addGoose 75 = .ok (.iconst 1, 1) := by decide +kernel
theorem dX4_addGoose_76 : decode cX4_addGoose 76 = .ok (.iadd, 1) := by decide +kernel
theorem dX4_addGoose_77 : decode cX4_addGoose 77 = .ok (.putfield 36, 3) := by decide +kernel
theorem dX4_addGoose_80 : decode cX4_addGoose 80 = .ok (.aload_n 0, 1) := by decide +kernel
theorem dX4_addGoose_81 : decode cX4_addGoose 81 = .ok (.getfield 36, 3) := by decide +kernel
theorem dX4_addGoose_84 : decode cX4_addGoose 84 = .ok (.iconst 1, 1) := by decide +kernel
theorem dX4_addGoose_85 : decode cX4_addGoose 85 = .ok (.isub, 1) := by decide +kernel
theorem dX4_addGoose_86 : decode cX4_addGoose 86 = .ok (.ireturn, 1) := by decide +kernel
set_option maxRecDepth 20000 in
theorem ggX4_arrive_X4_isIn : GoodIn wsX4_arrive wsX4_isIn := goodIn_r _ [8] (by decide +kernel) (by decide +kernel)
set_option maxRecDepth 20000 in
theorem gX4_arrive_X4_isIn : GoodIn wsX4_arrive (va_wsS RX4 32 yX4_isIn wsX4_isIn) := goodIn_app (goodIn_of _ (by decide +kernel)) ggX4_arrive_X4_isIn
set_option maxRecDepth 20000 in
theorem ggX4_arrive_X4_fail : GoodIn wsX4_arrive wsX4_fail := goodIn_r _ [12, 1, 18, 19, 20, 21, 22, 23, 24, 25, 26] (by decide +kernel) (by decide +kernel)
set_option maxRecDepth 20000 in
theorem gX4_arrive_X4_fail : GoodIn wsX4_arrive (wsV RX4 101 RX4 yX4_fail wsX4_fail) := goodIn_app (goodIn_of _ (by decide +kernel)) ggX4_arrive_X4_fail
set_option maxRecDepth 20000 in
theorem ggX4_arrive_X4_let : GoodIn wsX4_arrive wsX4_let := goodIn_r _ [16, 17, 18, 19, 20, 21, 22, 23, 24, 25, 26] (by decide +kernel) (by decide +kernel)
set_option maxRecDepth 20000 in
theorem gX4_arrive_X4_let : GoodIn wsX4_arrive (wsV RX4 73 RX4 yX4_let wsX4_let) := goodIn_app (goodIn_of _ (by decide +kernel)) ggX4_arrive_X4_let
theorem dX4_arrive_0 : decode cX4_arrive 0 = .ok (.aload_n 0, 1) := by decide +kernel
theorem dX4_arrive_1 : decode cX4_arrive 1 = .ok (.iconst 0, 1) := by decide +kernel
theorem dX4_arrive_2 : decode cX4_arrive 2 = .ok (.putfield 25, 3) := by decide +kernel
theorem dX4_arrive_5 : decode cX4_arrive 5 = .ok (.iload_n 1, 1) := by decide +kernel
theorem dX4_arrive_6 : decode cX4_arrive 6 = .ok (.iconst 0, 1) := by decide +kernel
theorem dX4_arrive_7 : decode cX4_arrive 7 = .ok (.bipush 9, 2) := by decide +kernel
theorem dX4_arrive_9 : decode cX4_arrive 9 = .ok (.invokestatic 32, 3) := by decide +kernel
theorem dX4_arrive_12 : decode cX4_arrive 12 = .ok (.ifCond .eq 23, 3) := by decide +kernel
theorem dX4_arrive_15 : decode cX4_arrive 15 = .ok (.iload_n 2, 1) := by decide +kernel
theorem dX4_arrive_16 : decode cX4_arrive 16 = .ok (.iconst 0, 1) := by decide +kernel
theorem dX4_arrive_17 : decode cX4_arrive 17 = .ok (.bipush 20, 2) := by decide +kernel
theorem dX4_arrive_19 : decode cX4_arrive 19 = .ok (.invokestatic 32, 3) := by decide +kernel
theorem dX4_arrive_22 : decode cX4_arrive 22 = .ok (.ifCond .eq 13, 3) := by decide +kernel
theorem dX4_arrive_25 : decode cX4_arrive 25 = .ok (.iload_n 3, 1) := by decide +kernel
theorem dX4_arrive_26 : decode cX4_arrive 26 = .ok (.iconst 0, 1) := by decide +kernel
theorem dX4_arrive_27 : decode cX4_arrive 27 = .ok (.bipush 20, 2) := by decide +kernel
theorem dX4_arrive_29 : decode cX4_arrive 29 = .ok (.invokestatic 32, 3) := by decide +kernel
theorem dX4_arrive_32 : decode cX4_arrive 32 = .ok (.ifCond .ne 9, 3) := by decide +kernel
theorem dX4_arrive_35 : decode cX4_arrive 35 = .ok (.aload_n 0, 1) := by decide +kernel
theorem dX4_arrive_36 : decode cX4_arrive 36 = .ok (.iconst 1, 1) := by decide +kernel
theorem dX4_arrive_37 : decode cX4_arrive 37 = .ok (.invokevirtual 101, 3) := by decide +kernel
theorem dX4_arrive_40 : decode cX4_arrive 40 = .ok (.ireturn, 1) := by decide +kernel
theorem dX4_arrive_41 : decode cX4_arrive 41 = .ok (.aload_n 0, 1) := by decide +kernel
theorem dX4_arrive_42 : decode cX4_arrive 42 = .ok (.getfield 29, 3) := by decide +kernel
theorem dX4_arrive_45 : decode cX4_arrive 45 = .ok (.ifCond .eq 12, 3) := by decide +kernel
theorem dX4_arrive_48 : decode cX4_arrive 48 = .ok (.aload_n 0, 1) := by decide +kernel
theorem dX4_arrive_49 : decode cX4_arrive 49 = .ok (.getfield 39, 3) := by decide +kernel
theorem dX4_arrive_52 : decode cX4_arrive 52 = .ok (.bipush 8, 2) := by decide +kernel
theorem dX4_arrive_54 : decode cX4_arrive 54 = .ok (.if_icmp .ne 9, 3) := by decide +kernel
theorem dX4_arrive_57 : decode cX4_arrive 57 = .ok (.aload_n 0, 1) := by decide +kernel
theorem dX4_arrive_58 : decode cX4_arrive 58 = .ok (.iconst 2, 1) := by decide +kernel
theorem dX4_arrive_59 : decode cX4_arrive 59 = .ok (.invokevirtual 101, 3) := by decide +kernel
theorem dX4_arrive_62 : decode cX4_arrive 62 = .ok (.ireturn, 1) := by decide +kernel
theorem dX4_arrive_63 : decode cX4_arrive 63 = .ok (.aload_n 0, 1) := by decide +kernel
theorem dX4_arrive_64 : decode cX4_arrive 64 = .ok (.getfield 16, 3) := by decide +kernel
theorem dX4_arrive_67 : decode cX4_arrive 67 = .ok (.aload_n 0, 1) := by decide +kernel
theorem dX4_arrive_68 : decode cX4_arrive 68 = .ok (.getfield 39, 3) := by decide +kernel
theorem dX4_arrive_71 : decode cX4_arrive 71 = .ok (.iload_n 1, 1) := by decide +kernel
theorem dX4_arrive_72 : decode cX4_arrive 72 = .ok (.iastore, 1) := by decide +kernel
theorem dX4_arrive_73 : decode cX4_arrive 73 = .ok (.aload_n 0, 1) := by decide +kernel
theorem dX4_arrive_74 : decode cX4_arrive 74 = .ok (.aload_n 0, 1) := by decide +kernel
theorem dX4_arrive_75 : decode cX4_arrive 75 = .ok (.getfield 39, 3) := by decide +kernel
theorem dX4_arrive_78 : decode cX4_arrive 78 = .ok (.iconst 2, 1) := by decide +kernel
theorem dX4_arrive_79 : decode cX4_arrive 79 = .ok (.iload_n 2, 1) := by decide +kernel
theorem dX4_arrive_80 : decode cX4_arrive 80 = .ok (.invokevirtual 73, 3) := by decide +kernel
theorem dX4_arrive_83 : decode cX4_arrive 83 = .ok (.aload_n 0, 1) := by decide +kernel
theorem dX4_arrive_84 : decode cX4_arrive 84 = .ok (.aload_n 0, 1) := by decide +kernel
theorem dX4_arrive_85 : decode cX4_arrive 85 = .ok (.getfield 39, 3) := by decide +kernel
theorem dX4_arrive_88 : decode cX4_arrive 88 = .ok (.iconst 1, 1) := by decide +kernel
theorem dX4_arrive_89 : decode cX4_arrive 89 = .ok (.iload_n 3, 1) := by decide +kernel
theorem dX4_arrive_90 : decode cX4_arrive 90 = .ok (.invokevirtual 73, 3) := by decide +kernel
theorem dX4_arrive_93 : decode cX4_arrive 93 = .ok (.aload_n 0, 1) := by decide +kernel
theorem dX4_arrive_94 : decode cX4_arrive 94 = .ok (.dup, 1) := by decide +kernel
theorem dX4_arrive_95 : decode cX4_arrive 95 = .ok (.getfield 39, 3) := by decide +kernel
theorem dX4_arrive_98 : decode cX4_arrive 98 = .ok (.iconst 1, 1) := by decide +kernel
theorem dX4_arrive_99 : decode cX4_arrive 99 = .ok (.iadd, 1) := by decide +kernel
theorem dX4_arrive_100 : decode cX4_arrive 100 = .ok (.putfield 39, 3) := by decide +kernel
theorem dX4_arrive_103 : decode cX4_arrive 103 = .ok (.aload_n 0, 1) := by decide +kernel
theorem dX4_arrive_104 : decode cX4_arrive 104 = .ok (.getfield 39, 3) := by decide +kernel
theorem dX4_arrive_107 : decode cX4_arrive 107 = .ok (.iconst 1, 1) := by decide +kernel
theorem dX4_arrive_108 : decode cX4_arrive 108 = .ok (.isub, 1) := by decide +kernel
theorem dX4_arrive_109 : decode cX4_arrive 109 = .ok (.ireturn, 1) := by decide +kernel
set_option maxRecDepth 20000 in
theorem ggX4_setRank_X4_isGate : GoodIn wsX4_setRank wsX4_isGate := goodIn_r _ [7, 8, 9, 10, 6, 11, 16, 17, 18, 19, 20, 21, 22, 23, 24] (by decide +kernel) (by decide +kernel)
set_option maxRecDepth 20000 in
theorem gX4_setRank_X4_isGate : GoodIn wsX4_setRank (wsV RX4 104 RX4 yX4_isGate wsX4_isGate) := goodIn_app (goodIn_of _ (by decide +kernel)) ggX4_setRank_X4_isGate
set_option maxRecDepth 20000 in
theorem ggX4_setRank_X4_fail : GoodIn wsX4_setRank wsX4_fail := goodIn_r _ [15, 1, 16, 17, 18, 19, 20, 21, 22, 23, 24] (by decide +kernel) (by decide +kernel)
set_option maxRecDepth 20000 in
theorem gX4_setRank_X4_fail : GoodIn wsX4_setRank (wsV RX4 101 RX4 yX4_fail wsX4_fail) := goodIn_app (goodIn_of _ (by decide +kernel)) ggX4_setRank_X4_fail
set_option maxRecDepth 20000 in
theorem ggX4_setRank_X4_isIn : GoodIn wsX4_setRank wsX4_isIn := goodIn_r _ [11] (by decide +kernel) (by decide +kernel)
set_option maxRecDepth 20000 in
theorem gX4_setRank_X4_isIn : GoodIn wsX4_setRank (va_wsS RX4 32 yX4_isIn wsX4_isIn) := goodIn_app (goodIn_of _ (by decide +kernel)) ggX4_setRank_X4_isIn
theorem dX4_setRank_0 : decode cX4_setRank 0 = .ok (.aload_n 0, 1) := by decide +kernel
theorem dX4_setRank_1 : decode cX4_setRank 1 = .ok (.iconst 0, 1) := by decide +kernel
theorem dX4_setRank_2 : decode cX4_setRank 2 = .ok (.putfield 25, 3) := by decide +kernel
theorem dX4_setRank_5 : decode cX4_setRank 5 = .ok (.aload_n 0, 1) := by decide +kernel
theorem dX4_setRank_6 : decode cX4_setRank 6 = .ok (.iload_n 1, 1) := by decide +kernel
theorem dX4_setRank_7 : decode cX4_setRank 7 = .ok (.invokevirtual 104, 3) := by decide +kernel
theorem dX4_setRank_10 : decode cX4_setRank 10 = .ok (.ifCond .ne 9, 3) := by decide +kernel
theorem dX4_setRank_13 : decode cX4_setRank 13 = .ok (.aload_n 0, 1) := by decide +kernel
theorem dX4_setRank_14 : decode cX4_setRank 14 = .ok (.iconst 1, 1) := by decide +kernel
theorem dX4_setRank_15 : decode cX4_setRank 15 = .ok (.invokevirtual 101, 3) := by decide +kernel
theorem dX4_setRank_18 : decode cX4_setRank 18 = .ok (.ireturn, 1) := by decide +kernel
theorem dX4_setRank_19 : decode cX4_setRank 19 = .ok (.iload_n 2, 1) := by decide +kernel
theorem dX4_setRank_20 : decode cX4_setRank 20 = .ok (.iconst 0, 1) := by decide +kernel
theorem dX4_setRank_21 : decode cX4_setRank 21 = .ok (.bipush 9, 2) := by decide +kernel
theorem dX4_setRank_23 : decode cX4_setRank 23 = .ok (.invokestatic 32, 3) := by decide +kernel
theorem dX4_setRank_26 : decode cX4_setRank 26 = .ok (.ifCond .ne 9, 3) := by decide +kernel
theorem dX4_setRank_29 : decode cX4_setRank 29 = .ok (.aload_n 0, 1) := by decide +kernel
theorem dX4_setRank_30 : decode cX4_setRank 30 = .ok (.iconst 2, 1) := by decide +kernel
theorem dX4_setRank_31 : decode cX4_setRank 31 = .ok (.invokevirtual 101, 3) := by decide +kernel
theorem dX4_setRank_34 : decode cX4_setRank 34 = .ok (.ireturn, 1) := by decide +kernel
theorem dX4_setRank_35 : decode cX4_setRank 35 = .ok (.aload_n 0, 1) := by decide +kernel
theorem dX4_setRank_36 : decode cX4_setRank 36 = .ok (.getfield 9, 3) := by decide +kernel
theorem dX4_setRank_39 : decode cX4_setRank 39 = .ok (.iload_n 1, 1) := by decide +kernel
theorem dX4_setRank_40 : decode cX4_setRank 40 = .ok (.iaload, 1) := by decide +kernel
theorem dX4_setRank_41 : decode cX4_setRank 41 = .ok (.istore_n 3, 1) := by decide +kernel
theorem dX4_setRank_42 : decode cX4_setRank 42 = .ok (.aload_n 0, 1) := by decide +kernel
theorem dX4_setRank_43 : decode cX4_setRank 43 = .ok (.getfield 9, 3) := by decide +kernel
theorem dX4_setRank_46 : decode cX4_setRank 46 = .ok (.iload_n 1, 1) := by decide +kernel
theorem dX4_setRank_47 : decode cX4_setRank 47 = .ok (.iload_n 2, 1) := by decide +kernel
theorem dX4_setRank_48 : decode cX4_setRank 48 = .ok (.iastore, 1) := by decide +kernel
theorem dX4_setRank_49 : decode cX4_setRank 49 = .ok (.iload_n 3, 1) := by decide +kernel
theorem dX4_setRank_50 : decode cX4_setRank 50 = .ok (.ireturn, 1) := by decide +kernel
set_option maxRecDepth 20000 in
theorem ggX4_lead_X4_isGoose : GoodIn wsX4_lead wsX4_isGoose := goodIn_r _ [7, 8, 9, 10, 6, 11, 21, 22, 23, 24, 25, 26, 27, 28, 29] (by decide +kernel) (by decide +kernel)
set_option maxRecDepth 20000 in
theorem gX4_lead_X4_isGoose : GoodIn wsX4_lead (wsV RX4 107 RX4 yX4_isGoose wsX4_isGoose) := goodIn_app (goodIn_of _ (by decide +kernel)) ggX4_lead_X4_isGoose
set_option maxRecDepth 20000 in
theorem ggX4_lead_X4_isGate : GoodIn wsX4_lead wsX4_isGate := goodIn_r _ [15, 16, 9, 10, 6, 11, 21, 22, 23, 24, 25, 26, 27, 28, 29] (by decide +kernel) (by decide +kernel)
set_option maxRecDepth 20000 in
theorem gX4_lead_X4_isGate : GoodIn wsX4_lead (wsV RX4 104 RX4 yX4_isGate wsX4_isGate) := goodIn_app (goodIn_of _ (by decide +kernel)) ggX4_lead_X4_isGate
set_option maxRecDepth 20000 in
theorem ggX4_lead_X4_fail : GoodIn wsX4_lead wsX4_fail := goodIn_r _ [20, 1, 21, 22, 23, 24, 25, 26, 27, 28, 29] (by decide +kernel) (by decide +kernel)
set_option maxRecDepth 20000 in
theorem gX4_lead_X4_fail : GoodIn wsX4_lead (wsV RX4 101 RX4 yX4_fail wsX4_fail) := goodIn_app (goodIn_of _ (by decide +kernel)) ggX4_lead_X4_fail
theorem dX4_lead_0 : decode cX4_lead 0 = .ok (.aload_n 0, 1) := by decide +kernel
theorem dX4_lead_1 : decode cX4_lead 1 = .ok (.iconst 0, 1) := by decide +kernel
theorem dX4_lead_2 : decode cX4_lead 2 = .ok (.putfield 25, 3) := by decide +kernel
theorem dX4_lead_5 : decode cX4_lead 5 = .ok (.aload_n 0, 1) := by decide +kernel
theorem dX4_lead_6 : decode cX4_lead 6 = .ok (.iload_n 1, 1) := by decide +kernel
theorem dX4_lead_7 : decode cX4_lead 7 = .ok (.invokevirtual 107, 3) := by decide +kernel
theorem dX4_lead_10 : decode cX4_lead 10 = .ok (.ifCond .eq 11, 3) := by decide +kernel
theorem dX4_lead_13 : decode cX4_lead 13 = .ok (.aload_n 0, 1) := by decide +kernel
theorem dX4_lead_14 : decode cX4_lead 14 = .ok (.iload_n 2, 1) := by decide +kernel
theorem dX4_lead_15 : decode cX4_lead 15 = .ok (.invokevirtual 104, 3) := by decide +kernel
theorem dX4_lead_18 : decode cX4_lead 18 = .ok (.ifCond .ne 9, 3) := by decide +kernel
theorem dX4_lead_21 : decode cX4_lead 21 = .ok (.aload_n 0, 1) := by decide +kernel
theorem dX4_lead_22 : decode cX4_lead 22 = .ok (.iconst 1, 1) := by decide +kernel
theorem dX4_lead_23 : decode cX4_lead 23 = .ok (.invokevirtual 101, 3) := by decide +kernel
theorem dX4_lead_26 : decode cX4_lead 26 = .ok (.ireturn, 1) := by decide +kernel
theorem dX4_lead_27 : decode cX4_lead 27 = .ok (.aload_n 0, 1) := by decide +kernel
theorem dX4_lead_28 : decode cX4_lead 28 = .ok (.getfield 13, 3) := by decide +kernel
theorem dX4_lead_31 : decode cX4_lead 31 = .ok (.iload_n 1, 1) := by decide +kernel
theorem dX4_lead_32 : decode cX4_lead 32 = .ok (.iaload, 1) := by decide +kernel
theorem dX4_lead_33 : decode cX4_lead 33 = .ok (.istore_n 3, 1) := by decide +kernel
theorem dX4_lead_34 : decode cX4_lead 34 = .ok (.aload_n 0, 1) := by decide +kernel
theorem dX4_lead_35 : decode cX4_lead 35 = .ok (.getfield 13, 3) := by decide +kernel
theorem dX4_lead_38 : decode cX4_lead 38 = .ok (.iload_n 1, 1) := by decide +kernel
theorem dX4_lead_39 : decode cX4_lead 39 = .ok (.iload_n 2, 1) := by decide +kernel
theorem dX4_lead_40 : decode cX4_lead 40 = .ok (.iastore, 1) := by decide +kernel
theorem dX4_lead_41 : decode cX4_lead 41 = .ok (.iload_n 3, 1) := by decide +kernel
theorem dX4_lead_42 : decode cX4_lead 42 = .ok (.ireturn, 1) := by decide +kernel
set_option maxRecDepth 20000 in
theorem ggX4_giveCorns_X4_isVisitor : GoodIn wsX4_giveCorns wsX4_isVisitor := goodIn_r _ [10, 11, 12, 13, 9, 14, 28, 29, 30, 31, 32, 33, 34, 35, 36] (by decide +kernel) (by decide +kernel)
set_option maxRecDepth 20000 in
theorem gX4_giveCorns_X4_isVisitor : GoodIn wsX4_giveCorns (wsV RX4 110 RX4 yX4_isVisitor wsX4_isVisitor) := goodIn_app (goodIn_of _ (by decide +kernel)) ggX4_giveCorns_X4_isVisitor
set_option maxRecDepth 20000 in
theorem ggX4_giveCorns_X4_fail : GoodIn wsX4_giveCorns wsX4_fail := goodIn_r _ [18, 1, 28, 29, 30, 31, 32, 33, 34, 35, 36] (by decide +kernel) (by decide +kernel)
set_option maxRecDepth 20000 in
theorem gX4_giveCorns_X4_fail : GoodIn wsX4_giveCorns (wsV RX4 101 RX4 yX4_fail wsX4_fail) := goodIn_app (goodIn_of _ (by decide +kernel)) ggX4_giveCorns_X4_fail
set_option maxRecDepth 20000 in
theorem ggX4_giveCorns_X4_isIn : GoodIn wsX4_giveCorns wsX4_isIn := goodIn_r _ [14] (by decide +kernel) (by decide +kernel)
set_option maxRecDepth 20000 in
theorem gX4_giveCorns_X4_isIn : GoodIn wsX4_giveCorns (va_wsS RX4 32 yX4_isIn wsX4_isIn) := goodIn_app (goodIn_of _ (by decide +kernel)) ggX4_giveCorns_X4_isIn
set_option maxRecDepth 20000 in
theorem ggX4_giveCorns_X4_vi : GoodIn wsX4_giveCorns wsX4_vi := goodIn_r _ [22, 23, 28, 29, 30, 31, 32, 33, 34, 35, 36] (by decide +kernel) (by decide +kernel)
set_option maxRecDepth 20000 in
theorem gX4_giveCorns_X4_vi : GoodIn wsX4_giveCorns (wsV RX4 64 RX4 yX4_vi wsX4_vi) := goodIn_app (goodIn_of _ (by decide +kernel)) ggX4_giveCorns_X4_vi
set_option maxRecDepth 20000 in
theorem ggX4_giveCorns_X4_let : GoodIn wsX4_giveCorns wsX4_let := goodIn_r _ [27, 23, 28, 29, 30, 31, 32, 33, 34, 35, 36] (by decide +kernel) (by decide +kernel)
set_option maxRecDepth 20000 in
theorem gX4_giveCorns_X4_let : GoodIn wsX4_giveCorns (wsV RX4 73 RX4 yX4_let wsX4_let) := goodIn_app (goodIn_of _ (by decide +kernel)) ggX4_giveCorns_X4_let
theorem dX4_giveCorns_0 : decode cX4_giveCorns 0 = .ok (.aload_n 0, 1) := by decide +kernel
theorem dX4_giveCorns_1 : decode cX4_giveCorns 1 = .ok (.iconst 0, 1) := by decide +kernel
theorem dX4_giveCorns_2 : decode cX4_giveCorns 2 = .ok (.putfield 25, 3) := by decide +kernel
theorem dX4_giveCorns_5 : decode cX4_giveCorns 5 = .ok (.aload_n 0, 1) := by decide +kernel
theorem dX4_giveCorns_6 : decode cX4_giveCorns 6 = .ok (.iload_n 1, 1) := by decide +kernel
theorem dX4_giveCorns_7 : decode cX4_giveCorns 7 = .ok (.invokevirtual 110, 3) := by decide +kernel
theorem dX4_giveCorns_10 : decode cX4_giveCorns 10 = .ok (.ifCond .ne 9, 3) := by decide +kernel
theorem dX4_giveCorns_13 : decode cX4_giveCorns 13 = .ok (.aload_n 0, 1) := by decide +kernel
theorem dX4_giveCorns_14 : decode cX4_giveCorns 14 = .ok (.iconst 1, 1) := by decide +kernel
theorem dX4_giveCorns_15 : decode cX4_giveCorns 15 = .ok (.invokevirtual 101, 3) := by decide +kernel
theorem dX4_giveCorns_18 : decode cX4_giveCorns 18 = .ok (.ireturn, 1) := by decide +kernel
theorem dX4_giveCorns_19 : decode cX4_giveCorns 19 = .ok (.iload_n 2, 1) := by decide +kernel
theorem dX4_giveCorns_20 : decode cX4_giveCorns 20 = .ok (.iconst 1, 1) := by decide +kernel
theorem dX4_giveCorns_21 : decode cX4_giveCorns 21 = .ok (.bipush 20, 2) := by decide +kernel
theorem dX4_giveCorns_23 : decode cX4_giveCorns 23 = .ok (.invokestatic 32, 3) := by decide +kernel
theorem dX4_giveCorns_26 : decode cX4_giveCorns 26 = .ok (.ifCond .ne 9, 3) := by decide +kernel
theorem dX4_giveCorns_29 : decode cX4_giveCorns 29 = .ok (.aload_n 0, 1) := by decide +kernel
theorem dX4_giveCorns_30 : decode cX4_giveCorns 30 = .ok (.iconst 2, 1) := by decide +kernel
theorem dX4_giveCorns_31 : decode cX4_giveCorns 31 = .ok (.invokevirtual 101, 3) := by decide +kernel
theorem dX4_giveCorns_34 : decode cX4_giveCorns 34 = .ok (.ireturn, 1) := by decide +kernel
theorem dX4_giveCorns_35 : decode cX4_giveCorns 35 = .ok (.aload_n 0, 1) := by decide +kernel
theorem dX4_giveCorns_36 : decode cX4_giveCorns 36 = .ok (.iload_n 1, 1) := by decide +kernel
theorem dX4_giveCorns_37 : decode cX4_giveCorns 37 = .ok (.iconst 1, 1) := by decide +kernel
theorem dX4_giveCorns_38 : decode cX4_giveCorns 38 = .ok (.bipush 20, 2) := by decide +kernel
theorem dX4_giveCorns_40 : decode cX4_giveCorns 40 = .ok (.aload_n 0, 1) := by decide +kernel
theorem dX4_giveCorns_41 : decode cX4_giveCorns 41 = .ok (.iload_n 1, 1) := by decide +kernel
theorem dX4_giveCorns_42 : decode cX4_giveCorns 42 = .ok (.iconst 1, 1) := by decide +kernel
theorem dX4_giveCorns_43 : decode cX4_giveCorns 43 = .ok (.invokevirtual 64, 3) := by decide +kernel
theorem dX4_giveCorns_46 : decode cX4_giveCorns 46 = .ok (.iload_n 2, 1) := by decide +kernel
theorem dX4_giveCorns_47 : decode cX4_giveCorns 47 = .ok (.iadd, 1) := by decide +kernel
theorem dX4_giveCorns_48 : decode cX4_giveCorns 48 = .ok (.invokestatic 80, 3) := by decide +kernel
theorem dX4_giveCorns_51 : decode cX4_giveCorns 51 = .ok (.invokevirtual 73, 3) := by decide +kernel
theorem dX4_giveCorns_54 : decode cX4_giveCorns 54 = .ok (.aload_n 0, 1) := by decide +kernel
theorem dX4_giveCorns_55 : decode cX4_giveCorns 55 = .ok (.iload_n 1, 1) := by decide +kernel
theorem dX4_giveCorns_56 : decode cX4_giveCorns 56 = .ok (.iconst 1, 1) := by decide +kernel
theorem dX4_giveCorns_57 : decode cX4_giveCorns 57 = .ok (.invokevirtual 64, 3) := by decide +kernel
theorem dX4_giveCorns_60 : decode cX4_giveCorns 60 = .ok (.ireturn, 1) := by decide +kernel
set_option maxRecDepth 20000 in
theorem ggX4_bribe_X4_isVisitor : GoodIn wsX4_bribe wsX4_isVisitor := goodIn_r _ [7, 8, 9, 10, 6, 11, 51, 52, 53, 54, 55, 56, 57, 58, 59] (by decide +kernel) (by decide +kernel)
set_option maxRecDepth 20000 in
theorem gX4_bribe_X4_isVisitor : GoodIn wsX4_bribe (wsV RX4 110 RX4 yX4_isVisitor wsX4_isVisitor) := goodIn_app (goodIn_of _ (by decide +kernel)) ggX4_bribe_X4_isVisitor
set_option maxRecDepth 20000 in
theorem ggX4_bribe_X4_isGoose : GoodIn wsX4_bribe wsX4_isGoose := goodIn_r _ [15, 16, 9, 10, 6, 11, 51, 52, 53, 54, 55, 56, 57, 58, 59] (by decide +kernel) (by decide +kernel)
set_option maxRecDepth 20000 in
theorem gX4_bribe_X4_isGoose : GoodIn wsX4_bribe (wsV RX4 107 RX4 yX4_isGoose wsX4_isGoose) := goodIn_app (goodIn_of _ (by decide +kernel)) ggX4_bribe_X4_isGoose
set_option maxRecDepth 20000 in
theorem ggX4_bribe_X4_fail : GoodIn wsX4_bribe wsX4_fail := goodIn_r _ [20, 1, 51, 52, 53, 54, 55, 56, 57, 58, 59] (by decide +kernel) (by decide +kernel)
set_option maxRecDepth 20000 in
theorem gX4_bribe_X4_fail : GoodIn wsX4_bribe (wsV RX4 101 RX4 yX4_fail wsX4_fail) := goodIn_app (goodIn_of _ (by decide +kernel)) ggX4_bribe_X4_fail
set_option maxRecDepth 20000 in
theorem ggX4_bribe_X4_vi : GoodIn wsX4_bribe wsX4_vi := goodIn_r _ [24, 25, 51, 52, 53, 54, 55, 56, 57, 58, 59] (by decide +kernel) (by decide +kernel)
set_option maxRecDepth 20000 in
theorem gX4_bribe_X4_vi : GoodIn wsX4_bribe (wsV RX4 64 RX4 yX4_vi wsX4_vi) := goodIn_app (goodIn_of _ (by decide +kernel)) ggX4_bribe_X4_vi
set_option maxRecDepth 20000 in
theorem ggX4_bribe_X4_isIn_ : GoodIn wsX4_bribe wsX4_isIn_ := goodIn_r _ [29, 30, 21, 22, 23, 6, 24, 25, 51, 52, 53, 54, 55, 56, 57, 58, 59] (by decide +kernel) (by decide +kernel)
set_option maxRecDepth 20000 in
theorem gX4_bribe_X4_isIn_ : GoodIn wsX4_bribe (wsV RX4 67 RX4 yX4_isIn_ wsX4_isIn_) := goodIn_app (goodIn_of _ (by decide +kernel)) ggX4_bribe_X4_isIn_
set_option maxRecDepth 20000 in
theorem ggX4_bribe_X4_feed : GoodIn wsX4_bribe wsX4_feed := goodIn_r _ [34, 35, 36, 37, 38, 25, 21, 22, 23, 6, 24, 39, 40, 41, 42, 43, 44, 45, 46, 47, 48, 49, 50, 51, 52, 53, 54, 55, 56, 57, 58, 59] (by decide +kernel) (by decide +kernel)
set_option maxRecDepth 20000 in
theorem gX4_bribe_X4_feed : GoodIn wsX4_bribe (wsV RX4 87 RX4 yX4_feed wsX4_feed) := goodIn_app (goodIn_of _ (by decide +kernel)) ggX4_bribe_X4_feed
set_option maxRecDepth 20000 in
theorem ggX4_bribe_X4_go : GoodIn wsX4_bribe wsX4_go := goodIn_r _ [50, 25, 51, 52, 53, 54, 55, 56, 57, 58, 59] (by decide +kernel) (by decide +kernel)
set_option maxRecDepth 20000 in
theorem gX4_bribe_X4_go : GoodIn wsX4_bribe (wsV RX4 48 RX4 yX4_go wsX4_go) := goodIn_app (goodIn_of _ (by decide +kernel)) ggX4_bribe_X4_go
theorem dX4_bribe_0 : decode cX4_bribe 0 = .ok (.aload_n 0, 1) := by decide +kernel
theorem dX4_bribe_1 : decode cX4_bribe 1 = .ok (.iconst 0, 1) := by decide +kernel
theorem dX4_bribe_2 : decode cX4_bribe 2 = .ok (.putfield 25, 3) := by decide +kernel
theorem dX4_bribe_5 : decode cX4_bribe 5 = .ok (.aload_n 0, 1) := by decide +kernel
theorem dX4_bribe_6 : decode cX4_bribe 6 = .ok (.iload_n 1, 1) := by decide +kernel
theorem dX4_bribe_7 : decode cX4_bribe 7 = .ok (.invokevirtual 110, 3) := by decide +kernel
theorem dX4_bribe_10 : decode cX4_bribe 10 = .ok (.ifCond .eq 11, 3) := by decide +kernel
theorem dX4_bribe_13 : decode cX4_bribe 13 = .ok (.aload_n 0, 1) := by decide +kernel
theorem dX4_bribe_14 : decode cX4_bribe 14 = .ok (.iload_n 2, 1) := by decide +kernel
theorem dX4_bribe_15 : decode cX4_bribe 15 = .ok (.invokevirtual 107, 3) := by decide +kernel
theorem dX4_bribe_18 : decode cX4_bribe 18 = .ok (.ifCond .ne 9, 3) := by decide +kernel
theorem dX4_bribe_21 : decode cX4_bribe 21 = .ok (.aload_n 0, 1) := by decide +kernel
theorem dX4_bribe_22 : decode cX4_bribe 22 = .ok (.iconst 1, 1) := by decide +kernel
theorem dX4_bribe_23 : decode cX4_bribe 23 = .ok (.invokevirtual 101, 3) := by decide +kernel
theorem dX4_bribe_26 : decode cX4_bribe 26 = .ok (.ireturn, 1) := by decide +kernel
theorem dX4_bribe_27 : decode cX4_bribe 27 = .ok (.aload_n 0, 1) := by decide +kernel
theorem dX4_bribe_28 : decode cX4_bribe 28 = .ok (.iload_n 1, 1) := by decide +kernel
theorem dX4_bribe_29 : decode cX4_bribe 29 = .ok (.iconst 1, 1) := by decide +kernel
theorem dX4_bribe_30 : decode cX4_bribe 30 = .ok (.invokevirtual 64, 3) := by decide +kernel
theorem dX4_bribe_33 : decode cX4_bribe 33 = .ok (.ifCond .eq 26, 3) := by decide +kernel
theorem dX4_bribe_36 : decode cX4_bribe 36 = .ok (.aload_n 0, 1) := by decide +kernel
theorem dX4_bribe_37 : decode cX4_bribe 37 = .ok (.iload_n 1, 1) := by decide +kernel
theorem dX4_bribe_38 : decode cX4_bribe 38 = .ok (.invokevirtual 67, 3) := by decide +kernel
theorem dX4_bribe_41 : decode cX4_bribe 41 = .ok (.ifCond .ne 18, 3) := by decide +kernel
theorem dX4_bribe_44 : decode cX4_bribe 44 = .ok (.aload_n 0, 1) := by decide +kernel
theorem dX4_bribe_45 : decode cX4_bribe 45 = .ok (.getfield 13, 3) := by decide +kernel
theorem dX4_bribe_48 : decode cX4_bribe 48 = .ok (.iload_n 2, 1) := by decide +kernel
theorem dX4_bribe_49 : decode cX4_bribe 49 = .ok (.iaload, 1) := by decide +kernel
theorem dX4_bribe_50 : decode cX4_bribe 50 = .ok (.aload_n 0, 1) := by decide +kernel
theorem dX4_bribe_51 : decode cX4_bribe 51 = .ok (.iload_n 1, 1) := by decide +kernel
theorem dX4_bribe_52 : decode cX4_bribe 52 = .ok (.iconst 0, 1) := by decide +kernel
theorem dX4_bribe_53 : decode cX4_bribe 53 = .ok (.invokevirtual 64, 3) := by decide +kernel
theorem dX4_bribe_56 : decode cX4_bribe 56 = .ok (.if_icmp .eq 9, 3) := by decide +kernel
theorem dX4_bribe_59 : decode cX4_bribe 59 = .ok (.aload_n 0, 1) := by decide +kernel
theorem dX4_bribe_60 : decode cX4_bribe 60 = .ok (.iconst 2, 1) := by decide +kernel
theorem dX4_bribe_61 : decode cX4_bribe 61 = .ok (.invokevirtual 101, 3) := by decide +kernel
theorem dX4_bribe_64 : decode cX4_bribe 64 = .ok (.ireturn, 1) := by decide +kernel
theorem dX4_bribe_65 : decode cX4_bribe 65 = .ok (.aload_n 0, 1) := by decide +kernel
theorem dX4_bribe_66 : decode cX4_bribe 66 = .ok (.iload_n 1, 1) := by decide +kernel
theorem dX4_bribe_67 : decode cX4_bribe 67 = .ok (.iload_n 2, 1) := by decide +kernel
theorem dX4_bribe_68 : decode cX4_bribe 68 = .ok (.invokevirtual 87, 3) := by decide +kernel
theorem dX4_bribe_71 : decode cX4_bribe 71 = .ok (.aload_n 0, 1) := by decide +kernel
theorem dX4_bribe_72 : decode cX4_bribe 72 = .ok (.iload_n 2, 1) := by decide +kernel
theorem dX4_bribe_73 : decode cX4_bribe 73 = .ok (.iconst 0, 1) := by decide +kernel
theorem dX4_bribe_74 : decode cX4_bribe 74 = .ok (.invokevirtual 48, 3) := by decide +kernel
theorem dX4_bribe_77 : decode cX4_bribe 77 = .ok (.ireturn, 1) := by decide +kernel
set_option maxRecDepth 20000 in
theorem ggX4_passBeats_X4_isIn : GoodIn wsX4_passBeats wsX4_isIn := goodIn_r _ [5] (by decide +kernel) (by decide +kernel)
set_option maxRecDepth 20000 in
theorem gX4_passBeats_X4_isIn : GoodIn wsX4_passBeats (va_wsS RX4 32 yX4_isIn wsX4_isIn) := goodIn_app (goodIn_of _ (by decide +kernel)) ggX4_passBeats_X4_isIn
set_option maxRecDepth 20000 in
theorem ggX4_passBeats_X4_fail : GoodIn wsX4_passBeats wsX4_fail := goodIn_r _ [9, 1, 83, 84, 85, 86, 87, 88, 89, 90, 91] (by decide +kernel) (by decide +kernel)
set_option maxRecDepth 20000 in
theorem gX4_passBeats_X4_fail : GoodIn wsX4_passBeats (wsV RX4 101 RX4 yX4_fail wsX4_fail) := goodIn_app (goodIn_of _ (by decide +kernel)) ggX4_passBeats_X4_fail
set_option maxRecDepth 20000 in
theorem ggX4_passBeats_X4_inside : GoodIn wsX4_passBeats wsX4_inside := goodIn_r _ [13, 14, 15, 16, 17, 4, 18, 19, 20, 21, 22, 23, 24, 83, 84, 85, 86, 87, 88, 89, 90, 91] (by decide +kernel) (by decide +kernel)
set_option maxRecDepth 20000 in
theorem gX4_passBeats_X4_inside : GoodIn wsX4_passBeats (wsV RX4 113 RX4 yX4_inside wsX4_inside) := goodIn_app (goodIn_of _ (by decide +kernel)) ggX4_passBeats_X4_inside
set_option maxRecDepth 20000 in
theorem ggX4_passBeats_X4_beatsOn : GoodIn wsX4_passBeats wsX4_beatsOn := goodIn_r _ [28, 29, 30, 31, 4, 32, 33, 14, 24, 34, 35, 36, 37, 38, 39, 40, 41, 42, 43, 44, 45, 46, 47, 48, 49, 50, 51, 52, 53, 15, 16, 17, 18, 19, 20, 21, 22, 23, 54, 55, 56, 57, 58, 59, 60, 61, 62, 63, 64, 65, 66, 67, 68, 69, 70, 71, 72, 73, 74, 75, 76, 77, 78, 79, 80, 81, 82, 83, 84, 85, 86, 87, 88, 89, 90, 91] (by decide +kernel) (by decide +kernel)
set_option maxRecDepth 20000 in
theorem gX4_passBeats_X4_beatsOn : GoodIn wsX4_passBeats (wsV RX4 117 RX4 yX4_beatsOn wsX4_beatsOn) := goodIn_app (goodIn_of _ (by decide +kernel)) ggX4_passBeats_X4_beatsOn
theorem dX4_passBeats_0 : decode cX4_passBeats 0 = .ok (.aload_n 0, 1) := by decide +kernel
theorem dX4_passBeats_1 : decode cX4_passBeats 1 = .ok (.iconst 0, 1) := by decide +kernel
theorem dX4_passBeats_2 : decode cX4_passBeats 2 = .ok (.putfield 25, 3) := by decide +kernel
theorem dX4_passBeats_5 : decode cX4_passBeats 5 = .ok (.iload_n 1, 1) := by decide +kernel
theorem dX4_passBeats_6 : decode cX4_passBeats 6 = .ok (.iconst 1, 1) := by decide +kernel
theorem dX4_passBeats_7 : decode cX4_passBeats 7 = .ok (.bipush 60, 2) := by decide +kernel
theorem dX4_passBeats_9 : decode cX4_passBeats 9 = .ok (.invokestatic 32, 3) := by decide +kernel
theorem dX4_passBeats_12 : decode cX4_passBeats 12 = .ok (.ifCond .ne 9, 3) := by decide +kernel
theorem dX4_passBeats_15 : decode cX4_passBeats 15 = .ok (.aload_n 0, 1) := by decide +kernel
theorem dX4_passBeats_16 : decode cX4_passBeats 16 = .ok (.iconst 1, 1) := by decide +kernel
theorem dX4_passBeats_17 : decode cX4_passBeats 17 = .ok (.invokevirtual 101, 3) := by decide +kernel
theorem dX4_passBeats_20 : decode cX4_passBeats 20 = .ok (.ireturn, 1) := by decide +kernel
theorem dX4_passBeats_21 : decode cX4_passBeats 21 = .ok (.aload_n 0, 1) := by decide +kernel
theorem dX4_passBeats_22 : decode cX4_passBeats 22 = .ok (.invokevirtual 113, 3) := by decide +kernel
theorem dX4_passBeats_25 : decode cX4_passBeats 25 = .ok (.istore_n 2, 1) := by decide +kernel
theorem dX4_passBeats_26 : decode cX4_passBeats 26 = .ok (.aload_n 0, 1) := by decide +kernel
theorem dX4_passBeats_27 : decode cX4_passBeats 27 = .ok (.iload_n 1, 1) := by decide +kernel
theorem dX4_passBeats_28 : decode cX4_passBeats 28 = .ok (.invokevirtual 117, 3) := by decide +kernel
theorem dX4_passBeats_31 : decode cX4_passBeats 31 = .ok (.aload_n 0, 1) := by decide +kernel
theorem dX4_passBeats_32 : decode cX4_passBeats 32 = .ok (.invokevirtual 113, 3) := by decide +kernel
theorem dX4_passBeats_35 : decode cX4_passBeats 35 = .ok (.iload_n 2, 1) := by decide +kernel
theorem dX4_passBeats_36 : decode cX4_passBeats 36 = .ok (.isub, 1) := by decide +kernel
theorem dX4_passBeats_37 : decode cX4_passBeats 37 = .ok (.ireturn, 1) := by decide +kernel
set_option maxRecDepth 20000 in
theorem ggX4_beats_X4_told : GoodIn wsX4_beats wsX4_told := goodIn_r _ [6, 7, 8, 9, 10, 11, 12, 13, 14, 15, 16] (by decide +kernel) (by decide +kernel)
set_option maxRecDepth 20000 in
theorem gX4_beats_X4_told : GoodIn wsX4_beats (wsV RX4 120 RX4 yX4_told wsX4_told) := goodIn_app (goodIn_of _ (by decide +kernel)) ggX4_beats_X4_told
theorem dX4_beats_0 : decode cX4_beats 0 = .ok (.aload_n 0, 1) := by decide +kernel
theorem dX4_beats_1 : decode cX4_beats 1 = .ok (.aload_n 0, 1) := by decide +kernel
theorem dX4_beats_2 : decode cX4_beats 2 = .ok (.getfield 19, 3) := by decide +kernel
theorem dX4_beats_5 : decode cX4_beats 5 = .ok (.iconst 0, 1) := by decide +kernel
theorem dX4_beats_6 : decode cX4_beats 6 = .ok (.iaload, 1) := by decide +kernel
theorem dX4_beats_7 : decode cX4_beats 7 = .ok (.invokevirtual 120, 3) := by decide +kernel
theorem dX4_beats_10 : decode cX4_beats 10 = .ok (.ireturn, 1) := by decide +kernel
set_option maxRecDepth 20000 in
theorem ggX4_gates_X4_told : GoodIn wsX4_gates wsX4_told := goodIn_r _ [6, 7, 8, 9, 10, 11, 12, 13, 14, 15, 16] (by decide +kernel) (by decide +kernel)
set_option maxRecDepth 20000 in
theorem gX4_gates_X4_told : GoodIn wsX4_gates (wsV RX4 120 RX4 yX4_told wsX4_told) := goodIn_app (goodIn_of _ (by decide +kernel)) ggX4_gates_X4_told
theorem dX4_gates_0 : decode cX4_gates 0 = .ok (.aload_n 0, 1) := by decide +kernel
theorem dX4_gates_1 : decode cX4_gates 1 = .ok (.aload_n 0, 1) := by decide +kernel
theorem dX4_gates_2 : decode cX4_gates 2 = .ok (.getfield 29, 3) := by decide +kernel
theorem dX4_gates_5 : decode cX4_gates 5 = .ok (.invokevirtual 120, 3) := by decide +kernel
theorem dX4_gates_8 : decode cX4_gates 8 = .ok (.ireturn, 1) := by decide +kernel
set_option maxRecDepth 20000 in
theorem ggX4_geese_X4_told : GoodIn wsX4_geese wsX4_told := goodIn_r _ [6, 7, 8, 9, 10, 11, 12, 13, 14, 15, 16] (by decide +kernel) (by decide +kernel)
set_option maxRecDepth 20000 in
theorem gX4_geese_X4_told : GoodIn wsX4_geese (wsV RX4 120 RX4 yX4_told wsX4_told) := goodIn_app (goodIn_of _ (by decide +kernel)) ggX4_geese_X4_told
theorem dX4_geese_0 : decode cX4_geese 0 = .ok (.aload_n 0, 1) := by decide +kernel
theorem dX4_geese_1 : decode cX4_geese 1 = .ok (.aload_n 0, 1) := by decide +kernel
theorem dX4_geese_2 : decode cX4_geese 2 = .ok (.getfield 36, 3) := by decide +kernel
theorem dX4_geese_5 : decode cX4_geese 5 = .ok (.invokevirtual 120, 3) := by decide +kernel
theorem dX4_geese_8 : decode cX4_geese 8 = .ok (.ireturn, 1) := by decide +kernel
set_option maxRecDepth 20000 in
theorem ggX4_visitors_X4_told : GoodIn wsX4_visitors wsX4_told := goodIn_r _ [6, 7, 8, 9, 10, 11, 12, 13, 14, 15, 16] (by decide +kernel) (by decide +kernel)
set_option maxRecDepth 20000 in
theorem gX4_visitors_X4_told : GoodIn wsX4_visitors (wsV RX4 120 RX4 yX4_told wsX4_told) := goodIn_app (goodIn_of _ (by decide +kernel)) ggX4_visitors_X4_told
theorem dX4_visitors_0 : decode cX4_visitors 0 = .ok (.aload_n 0, 1) := by decide +kernel
theorem dX4_visitors_1 : decode cX4_visitors 1 = .ok (.aload_n 0, 1) := by decide +kernel
theorem dX4_visitors_2 : decode cX4_visitors 2 = .ok (.getfield 39, 3) := by decide +kernel
theorem dX4_visitors_5 : decode cX4_visitors 5 = .ok (.invokevirtual 120, 3) := by decide +kernel
theorem dX4_visitors_8 : decode cX4_visitors 8 = .ok (.ireturn, 1) := by decide +kernel
set_option maxRecDepth 20000 in
theorem ggX4_inFarm_X4_inside : GoodIn wsX4_inFarm wsX4_inside := goodIn_r _ [5, 6, 7, 8, 9, 4, 10, 11, 12, 13, 14, 15, 16, 22, 23, 24, 25, 26, 27, 28, 29, 30] (by decide +kernel) (by decide +kernel)
set_option maxRecDepth 20000 in
theorem gX4_inFarm_X4_inside : GoodIn wsX4_inFarm (wsV RX4 113 RX4 yX4_inside wsX4_inside) := goodIn_app (goodIn_of _ (by decide +kernel)) ggX4_inFarm_X4_inside
set_option maxRecDepth 20000 in
theorem ggX4_inFarm_X4_told : GoodIn wsX4_inFarm wsX4_told := goodIn_r _ [20, 21, 22, 23, 24, 25, 26, 27, 28, 29, 30] (by decide +kernel) (by decide +kernel)
set_option maxRecDepth 20000 in
theorem gX4_inFarm_X4_told : GoodIn wsX4_inFarm (wsV RX4 120 RX4 yX4_told wsX4_told) := goodIn_app (goodIn_of _ (by decide +kernel)) ggX4_inFarm_X4_told
theorem dX4_inFarm_0 : decode cX4_inFarm 0 = .ok (.aload_n 0, 1) := by decide +kernel
theorem dX4_inFarm_1 : decode cX4_inFarm 1 = .ok (.aload_n 0, 1) := by decide +kernel
theorem dX4_inFarm_2 : decode cX4_inFarm 2 = .ok (.invokevirtual 113, 3) := by decide +kernel
theorem dX4_inFarm_5 : decode cX4_inFarm 5 = .ok (.invokevirtual 120, 3) := by decide +kernel
theorem dX4_inFarm_8 : decode cX4_inFarm 8 = .ok (.ireturn, 1) := by decide +kernel
set_option maxRecDepth 20000 in
theorem ggX4_bribes_X4_told : GoodIn wsX4_bribes wsX4_told := goodIn_r _ [6, 7, 8, 9, 10, 11, 12, 13, 14, 15, 16] (by decide +kernel) (by decide +kernel)
set_option maxRecDepth 20000 in
theorem gX4_bribes_X4_told : GoodIn wsX4_bribes (wsV RX4 120 RX4 yX4_told wsX4_told) := goodIn_app (goodIn_of _ (by decide +kernel)) ggX4_bribes_X4_told
theorem dX4_bribes_0 : decode cX4_bribes 0 = .ok (.aload_n 0, 1) := by decide +kernel
theorem dX4_bribes_1 : decode cX4_bribes 1 = .ok (.aload_n 0, 1) := by decide +kernel
theorem dX4_bribes_2 : decode cX4_bribes 2 = .ok (.getfield 19, 3) := by decide +kernel
theorem dX4_bribes_5 : decode cX4_bribes 5 = .ok (.iconst 1, 1) := by decide +kernel
theorem dX4_bribes_6 : decode cX4_bribes 6 = .ok (.iaload, 1) := by decide +kernel
theorem dX4_bribes_7 : decode cX4_bribes 7 = .ok (.invokevirtual 120, 3) := by decide +kernel
theorem dX4_bribes_10 : decode cX4_bribes 10 = .ok (.ireturn, 1) := by decide +kernel
set_option maxRecDepth 20000 in
theorem ggX4_retreats_X4_told : GoodIn wsX4_retreats wsX4_told := goodIn_r _ [6, 7, 8, 9, 10, 11, 12, 13, 14, 15, 16] (by decide +kernel) (by decide +kernel)
set_option maxRecDepth 20000 in
theorem gX4_retreats_X4_told : GoodIn wsX4_retreats (wsV RX4 120 RX4 yX4_told wsX4_told) := goodIn_app (goodIn_of _ (by decide +kernel)) ggX4_retreats_X4_told
theorem dX4_retreats_0 : decode cX4_retreats 0 = .ok (.aload_n 0, 1) := by decide +kernel
theorem dX4_retreats_1 : decode cX4_retreats 1 = .ok (.aload_n 0, 1) := by decide +kernel
theorem dX4_retreats_2 : decode cX4_retreats 2 = .ok (.getfield 19, 3) := by decide +kernel
theorem dX4_retreats_5 : decode cX4_retreats 5 = .ok (.iconst 2, 1) := by decide +kernel
theorem dX4_retreats_6 : decode cX4_retreats 6 = .ok (.iaload, 1) := by decide +kernel
theorem dX4_retreats_7 : decode cX4_retreats 7 = .ok (.invokevirtual 120, 3) := by decide +kernel
theorem dX4_retreats_10 : decode cX4_retreats 10 = .ok (.ireturn, 1) := by decide +kernel
set_option maxRecDepth 20000 in
theorem ggX4_rankOf_X4_isGate : GoodIn wsX4_rankOf wsX4_isGate := goodIn_r _ [7, 8, 9, 10, 6, 11, 16, 17, 18, 19, 20, 21, 22, 23, 24] (by decide +kernel) (by decide +kernel)
set_option maxRecDepth 20000 in
theorem gX4_rankOf_X4_isGate : GoodIn wsX4_rankOf (wsV RX4 104 RX4 yX4_isGate wsX4_isGate) := goodIn_app (goodIn_of _ (by decide +kernel)) ggX4_rankOf_X4_isGate
set_option maxRecDepth 20000 in
theorem ggX4_rankOf_X4_fail : GoodIn wsX4_rankOf wsX4_fail := goodIn_r _ [15, 1, 16, 17, 18, 19, 20, 21, 22, 23, 24] (by decide +kernel) (by decide +kernel)
set_option maxRecDepth 20000 in
theorem gX4_rankOf_X4_fail : GoodIn wsX4_rankOf (wsV RX4 101 RX4 yX4_fail wsX4_fail) := goodIn_app (goodIn_of _ (by decide +kernel)) ggX4_rankOf_X4_fail
theorem dX4_rankOf_0 : decode cX4_rankOf 0 = .ok (.aload_n 0, 1) := by decide +kernel
theorem dX4_rankOf_1 : decode cX4_rankOf 1 = .ok (.iconst 0, 1) := by decide +kernel
theorem dX4_rankOf_2 : decode cX4_rankOf 2 = .ok (.putfield 25, 3) := by decide +kernel
theorem dX4_rankOf_5 : decode cX4_rankOf 5 = .ok (.aload_n 0, 1) := by decide +kernel
theorem dX4_rankOf_6 : decode cX4_rankOf 6 = .ok (.iload_n 1, 1) := by decide +kernel
theorem dX4_rankOf_7 : decode cX4_rankOf 7 = .ok (.invokevirtual 104, 3) := by decide +kernel
theorem dX4_rankOf_10 : decode cX4_rankOf 10 = .ok (.ifCond .eq 12, 3) := by decide +kernel
theorem dX4_rankOf_13 : decode cX4_rankOf 13 = .ok (.aload_n 0, 1) := by decide +kernel
theorem dX4_rankOf_14 : decode cX4_rankOf 14 = .ok (.getfield 9, 3) := by decide +kernel
theorem dX4_rankOf_17 : decode cX4_rankOf 17 = .ok (.iload_n 1, 1) := by decide +kernel
theorem dX4_rankOf_18 : decode cX4_rankOf 18 = .ok (.iaload, 1) := by decide +kernel
theorem dX4_rankOf_19 : decode cX4_rankOf 19 = .ok (.goto 8, 3) := by decide +kernel
theorem dX4_rankOf_22 : decode cX4_rankOf 22 = .ok (.aload_n 0, 1) := by decide +kernel
theorem dX4_rankOf_23 : decode cX4_rankOf 23 = .ok (.iconst 1, 1) := by decide +kernel
theorem dX4_rankOf_24 : decode cX4_rankOf 24 = .ok (.invokevirtual 101, 3) := by decide +kernel
theorem dX4_rankOf_27 : decode cX4_rankOf 27 = .ok (.ireturn, 1) := by decide +kernel
set_option maxRecDepth 20000 in
theorem ggX4_awake_X4_isAwake : GoodIn wsX4_awake wsX4_isAwake := goodIn_r _ [6, 7, 8, 9, 10, 5, 11, 12, 13, 14, 15, 16, 17, 18, 19, 20, 21] (by decide +kernel) (by decide +kernel)
set_option maxRecDepth 20000 in
theorem gX4_awake_X4_isAwake : GoodIn wsX4_awake (wsV RX4 57 RX4 yX4_isAwake wsX4_isAwake) := goodIn_app (goodIn_of _ (by decide +kernel)) ggX4_awake_X4_isAwake
theorem dX4_awake_0 : decode cX4_awake 0 = .ok (.iconst 0, 1) := by decide +kernel
theorem dX4_awake_1 : decode cX4_awake 1 = .ok (.istore_n 2, 1) := by decide +kernel
theorem dX4_awake_2 : decode cX4_awake 2 = .ok (.iconst 0, 1) := by decide +kernel
theorem dX4_awake_3 : decode cX4_awake 3 = .ok (.istore_n 3, 1) := by decide +kernel
theorem dX4_awake_4 : decode cX4_awake 4 = .ok (.iload_n 3, 1) := by decide +kernel
theorem dX4_awake_5 : decode cX4_awake 5 = .ok (.aload_n 0, 1) := by decide +kernel
theorem dX4_awake_6 : decode cX4_awake 6 = .ok (.getfield 36, 3) := by decide +kernel
theorem dX4_awake_9 : decode cX4_awake 9 = .ok (.if_icmp .ge 26, 3) := by decide +kernel
theorem dX4_awake_12 : decode cX4_awake 12 = .ok (.iload_n 2, 1) := by decide +kernel
theorem dX4_awake_13 : decode cX4_awake 13 = .ok (.aload_n 0, 1) := by decide +kernel
theorem dX4_awake_14 : decode cX4_awake 14 = .ok (.iload_n 3, 1) := by decide +kernel
theorem dX4_awake_15 : decode cX4_awake 15 = .ok (.iload_n 1, 1) := by decide +kernel
theorem dX4_awake_16 : decode cX4_awake 16 = .ok (.invokevirtual 57, 3) := by decide +kernel
theorem dX4_awake_19 : decode cX4_awake 19 = .ok (.ifCond .eq 7, 3) := by decide +kernel
theorem dX4_awake_22 : decode cX4_awake 22 = .ok (.iconst 1, 1) := by decide +kernel
theorem dX4_awake_23 : decode cX4_awake 23 = .ok (.goto 4, 3) := by decide +kernel
theorem dX4_awake_26 : decode cX4_awake 26 = .ok (.iconst 0, 1) := by decide +kernel
theorem dX4_awake_27 : decode cX4_awake 27 = .ok (.iadd, 1) := by decide +kernel
theorem dX4_awake_28 : decode cX4_awake 28 = .ok (.istore_n 2, 1) := by decide +kernel
theorem dX4_awake_29 : decode cX4_awake 29 = .ok (.iinc 3 1, 3) := by decide +kernel
theorem dX4_awake_32 : decode cX4_awake 32 = .ok (.goto (-28), 3) := by decide +kernel
theorem dX4_awake_35 : decode cX4_awake 35 = .ok (.iload_n 2, 1) := by decide +kernel
theorem dX4_awake_36 : decode cX4_awake 36 = .ok (.ireturn, 1) := by decide +kernel
set_option maxRecDepth 20000 in
theorem ggX4_awakeAt_X4_isGate : GoodIn wsX4_awakeAt wsX4_isGate := goodIn_r _ [6, 7, 8, 9, 5, 10, 30, 31, 32, 33, 34, 35, 36, 37, 38] (by decide +kernel) (by decide +kernel)
set_option maxRecDepth 20000 in
theorem gX4_awakeAt_X4_isGate : GoodIn wsX4_awakeAt (wsV RX4 104 RX4 yX4_isGate wsX4_isGate) := goodIn_app (goodIn_of _ (by decide +kernel)) ggX4_awakeAt_X4_isGate
set_option maxRecDepth 20000 in
theorem ggX4_awakeAt_X4_awake : GoodIn wsX4_awakeAt wsX4_awake := goodIn_r _ [14, 15, 16, 17, 18, 5, 19, 20, 21, 22, 23, 24, 25, 30, 31, 32, 33, 34, 35, 36, 37, 38] (by decide +kernel) (by decide +kernel)
set_option maxRecDepth 20000 in
theorem gX4_awakeAt_X4_awake : GoodIn wsX4_awakeAt (wsV RX4 123 RX4 yX4_awake wsX4_awake) := goodIn_app (goodIn_of _ (by decide +kernel)) ggX4_awakeAt_X4_awake
set_option maxRecDepth 20000 in
theorem ggX4_awakeAt_X4_fail : GoodIn wsX4_awakeAt wsX4_fail := goodIn_r _ [29, 1, 30, 31, 32, 33, 34, 35, 36, 37, 38] (by decide +kernel) (by decide +kernel)
set_option maxRecDepth 20000 in
theorem gX4_awakeAt_X4_fail : GoodIn wsX4_awakeAt (wsV RX4 101 RX4 yX4_fail wsX4_fail) := goodIn_app (goodIn_of _ (by decide +kernel)) ggX4_awakeAt_X4_fail
theorem dX4_awakeAt_0 : decode cX4_awakeAt 0 = .ok (.aload_n 0, 1) := by decide +kernel
theorem dX4_awakeAt_1 : decode cX4_awakeAt 1 = .ok (.iconst 0, 1) := by decide +kernel
theorem dX4_awakeAt_2 : decode cX4_awakeAt 2 = .ok (.putfield 25, 3) := by decide +kernel
theorem dX4_awakeAt_5 : decode cX4_awakeAt 5 = .ok (.aload_n 0, 1) := by decide +kernel
theorem dX4_awakeAt_6 : decode cX4_awakeAt 6 = .ok (.iload_n 1, 1) := by decide +kernel
theorem dX4_awakeAt_7 : decode cX4_awakeAt 7 = .ok (.invokevirtual 104, 3) := by decide +kernel
theorem dX4_awakeAt_10 : decode cX4_awakeAt 10 = .ok (.ifCond .eq 11, 3) := by decide +kernel
theorem dX4_awakeAt_13 : decode cX4_awakeAt 13 = .ok (.aload_n 0, 1) := by decide +kernel
theorem dX4_awakeAt_14 : decode cX4_awakeAt 14 = .ok (.iload_n 1, 1) := by decide +kernel
theorem dX4_awakeAt_15 : decode cX4_awakeAt 15 = .ok (.invokevirtual 123, 3) := by decide +kernel
theorem dX4_awakeAt_18 : decode cX4_awakeAt 18 = .ok (.goto 8, 3) := by decide +kernel
theorem dX4_awakeAt_21 : decode cX4_awakeAt 21 = .ok (.aload_n 0, 1) := by decide +kernel
theorem dX4_awakeAt_22 : decode cX4_awakeAt 22 = .ok (.iconst 1, 1) := by decide +kernel
theorem dX4_awakeAt_23 : decode cX4_awakeAt 23 = .ok (.invokevirtual 101, 3) := by decide +kernel
theorem dX4_awakeAt_26 : decode cX4_awakeAt 26 = .ok (.ireturn, 1) := by decide +kernel
set_option maxRecDepth 20000 in
theorem ggX4_hissOf_X4_isGate : GoodIn wsX4_hissOf wsX4_isGate := goodIn_r _ [6, 7, 8, 9, 5, 10, 39, 40, 41, 42, 43, 44, 45, 46, 47] (by decide +kernel) (by decide +kernel)
set_option maxRecDepth 20000 in
theorem gX4_hissOf_X4_isGate : GoodIn wsX4_hissOf (wsV RX4 104 RX4 yX4_isGate wsX4_isGate) := goodIn_app (goodIn_of _ (by decide +kernel)) ggX4_hissOf_X4_isGate
set_option maxRecDepth 20000 in
theorem ggX4_hissOf_X4_fail : GoodIn wsX4_hissOf wsX4_fail := goodIn_r _ [14, 1, 39, 40, 41, 42, 43, 44, 45, 46, 47] (by decide +kernel) (by decide +kernel)
set_option maxRecDepth 20000 in
theorem gX4_hissOf_X4_fail : GoodIn wsX4_hissOf (wsV RX4 101 RX4 yX4_fail wsX4_fail) := goodIn_app (goodIn_of _ (by decide +kernel)) ggX4_hissOf_X4_fail
set_option maxRecDepth 20000 in
theorem ggX4_hissOf_X4_isIn : GoodIn wsX4_hissOf wsX4_isIn := goodIn_r _ [10] (by decide +kernel) (by decide +kernel)
set_option maxRecDepth 20000 in
theorem gX4_hissOf_X4_isIn : GoodIn wsX4_hissOf (va_wsS RX4 32 yX4_isIn wsX4_isIn) := goodIn_app (goodIn_of _ (by decide +kernel)) ggX4_hissOf_X4_isIn
set_option maxRecDepth 20000 in
theorem ggX4_hissOf_X4_hiss : GoodIn wsX4_hissOf wsX4_hiss := goodIn_r _ [18, 19, 20, 21, 22, 5, 23, 24, 25, 26, 27, 28, 29, 30, 31, 32, 33, 34, 35, 36, 37, 38, 39, 40, 41, 42, 43, 44, 45, 46, 47] (by decide +kernel) (by decide +kernel)
set_option maxRecDepth 20000 in
theorem gX4_hissOf_X4_hiss : GoodIn wsX4_hissOf (wsV RX4 70 RX4 yX4_hiss wsX4_hiss) := goodIn_app (goodIn_of _ (by decide +kernel)) ggX4_hissOf_X4_hiss
theorem dX4_hissOf_0 : decode cX4_hissOf 0 = .ok (.aload_n 0, 1) := by decide +kernel
theorem dX4_hissOf_1 : decode cX4_hissOf 1 = .ok (.iconst 0, 1) := by decide +kernel
theorem dX4_hissOf_2 : decode cX4_hissOf 2 = .ok (.putfield 25, 3) := by decide +kernel
theorem dX4_hissOf_5 : decode cX4_hissOf 5 = .ok (.aload_n 0, 1) := by decide +kernel
theorem dX4_hissOf_6 : decode cX4_hissOf 6 = .ok (.iload_n 1, 1) := by decide +kernel
theorem dX4_hissOf_7 : decode cX4_hissOf 7 = .ok (.invokevirtual 104, 3) := by decide +kernel
theorem dX4_hissOf_10 : decode cX4_hissOf 10 = .ok (.ifCond .ne 9, 3) := by decide +kernel
theorem dX4_hissOf_13 : decode cX4_hissOf 13 = .ok (.aload_n 0, 1) := by decide +kernel
theorem dX4_hissOf_14 : decode cX4_hissOf 14 = .ok (.iconst 1, 1) := by decide +kernel
theorem dX4_hissOf_15 : decode cX4_hissOf 15 = .ok (.invokevirtual 101, 3) := by decide +kernel
theorem dX4_hissOf_18 : decode cX4_hissOf 18 = .ok (.ireturn, 1) := by decide +kernel
theorem dX4_hissOf_19 : decode cX4_hissOf 19 = .ok (.iload_n 2, 1) := by decide +kernel
theorem dX4_hissOf_20 : decode cX4_hissOf 20 = .ok (.iconst 0, 1) := by decide +kernel
theorem dX4_hissOf_21 : decode cX4_hissOf 21 = .ok (.bipush 9, 2) := by decide +kernel
theorem dX4_hissOf_23 : decode cX4_hissOf 23 = .ok (.invokestatic 32, 3) := by decide +kernel
theorem dX4_hissOf_26 : decode cX4_hissOf 26 = .ok (.ifCond .eq 12, 3) := by decide +kernel
theorem dX4_hissOf_29 : decode cX4_hissOf 29 = .ok (.aload_n 0, 1) := by decide +kernel
theorem dX4_hissOf_30 : decode cX4_hissOf 30 = .ok (.iload_n 1, 1) := by decide +kernel
theorem dX4_hissOf_31 : decode cX4_hissOf 31 = .ok (.iload_n 2, 1) := by decide +kernel
theorem dX4_hissOf_32 : decode cX4_hissOf 32 = .ok (.invokevirtual 70, 3) := by decide +kernel
theorem dX4_hissOf_35 : decode cX4_hissOf 35 = .ok (.goto 8, 3) := by decide +kernel
theorem dX4_hissOf_38 : decode cX4_hissOf 38 = .ok (.aload_n 0, 1) := by decide +kernel
theorem dX4_hissOf_39 : decode cX4_hissOf 39 = .ok (.iconst 2, 1) := by decide +kernel
theorem dX4_hissOf_40 : decode cX4_hissOf 40 = .ok (.invokevirtual 101, 3) := by decide +kernel
theorem dX4_hissOf_43 : decode cX4_hissOf 43 = .ok (.ireturn, 1) := by decide +kernel
set_option maxRecDepth 20000 in
theorem ggX4_loudest_X4_hiss : GoodIn wsX4_loudest wsX4_hiss := goodIn_r _ [6, 7, 8, 9, 10, 5, 11, 12, 13, 14, 15, 16, 17, 18, 19, 20, 21, 22, 23, 24, 25, 26, 27, 28, 29, 30, 31, 32, 33, 34, 35] (by decide +kernel) (by decide +kernel)
set_option maxRecDepth 20000 in
theorem gX4_loudest_X4_hiss : GoodIn wsX4_loudest (wsV RX4 70 RX4 yX4_hiss wsX4_hiss) := goodIn_app (goodIn_of _ (by decide +kernel)) ggX4_loudest_X4_hiss
theorem dX4_loudest_0 : decode cX4_loudest 0 = .ok (.iconst (-1), 1) := by decide +kernel
theorem dX4_loudest_1 : decode cX4_loudest 1 = .ok (.istore_n 1, 1) := by decide +kernel
theorem dX4_loudest_2 : decode cX4_loudest 2 = .ok (.iconst 0, 1) := by decide +kernel
theorem dX4_loudest_3 : decode cX4_loudest 3 = .ok (.istore_n 2, 1) := by decide +kernel
theorem dX4_loudest_4 : decode cX4_loudest 4 = .ok (.iload_n 2, 1) := by decide +kernel
theorem dX4_loudest_5 : decode cX4_loudest 5 = .ok (.aload_n 0, 1) := by decide +kernel
theorem dX4_loudest_6 : decode cX4_loudest 6 = .ok (.getfield 29, 3) := by decide +kernel
theorem dX4_loudest_9 : decode cX4_loudest 9 = .ok (.if_icmp .ge 31, 3) := by decide +kernel
theorem dX4_loudest_12 : decode cX4_loudest 12 = .ok (.iload_n 1, 1) := by decide +kernel
theorem dX4_loudest_13 : decode cX4_loudest 13 = .ok (.iconst (-1), 1) := by decide +kernel
theorem dX4_loudest_14 : decode cX4_loudest 14 = .ok (.if_icmp .eq 18, 3) := by decide +kernel
theorem dX4_loudest_17 : decode cX4_loudest 17 = .ok (.aload_n 0, 1) := by decide +kernel
theorem dX4_loudest_18 : decode cX4_loudest 18 = .ok (.iload_n 2, 1) := by decide +kernel
theorem dX4_loudest_19 : decode cX4_loudest 19 = .ok (.iconst 0, 1) := by decide +kernel
theorem dX4_loudest_20 : decode cX4_loudest 20 = .ok (.invokevirtual 70, 3) := by decide +kernel
theorem dX4_loudest_23 : decode cX4_loudest 23 = .ok (.aload_n 0, 1) := by decide +kernel
theorem dX4_loudest_24 : decode cX4_loudest 24 = .ok (.iload_n 1, 1) := by decide +kernel
theorem dX4_loudest_25 : decode cX4_loudest 25 = .ok (.iconst 0, 1) := by decide +kernel
theorem dX4_loudest_26 : decode cX4_loudest 26 = .ok (.invokevirtual 70, 3) := by decide +kernel
theorem dX4_loudest_29 : decode cX4_loudest 29 = .ok (.if_icmp .le 5, 3) := by decide +kernel
theorem dX4_loudest_32 : decode cX4_loudest 32 = .ok (.iload_n 2, 1) := by decide +kernel
theorem dX4_loudest_33 : decode cX4_loudest 33 = .ok (.istore_n 1, 1) := by decide +kernel
theorem dX4_loudest_34 : decode cX4_loudest 34 = .ok (.iinc 2 1, 3) := by decide +kernel
theorem dX4_loudest_37 : decode cX4_loudest 37 = .ok (.goto (-33), 3) := by decide +kernel
theorem dX4_loudest_40 : decode cX4_loudest 40 = .ok (.iload_n 1, 1) := by decide +kernel
theorem dX4_loudest_41 : decode cX4_loudest 41 = .ok (.ireturn, 1) := by decide +kernel
set_option maxRecDepth 20000 in
theorem ggX4_loudestGate_X4_loudest : GoodIn wsX4_loudestGate wsX4_loudest := goodIn_r _ [5, 6, 7, 8, 9, 4, 10, 11, 12, 13, 14, 15, 16, 17, 18, 19, 20, 21, 22, 23, 24, 25, 26, 27, 28, 29, 30, 36, 37, 38, 39, 40, 41, 42, 43, 44] (by decide +kernel) (by decide +kernel)
set_option maxRecDepth 20000 in
theorem gX4_loudestGate_X4_loudest : GoodIn wsX4_loudestGate (wsV RX4 126 RX4 yX4_loudest wsX4_loudest) := goodIn_app (goodIn_of _ (by decide +kernel)) ggX4_loudestGate_X4_loudest
set_option maxRecDepth 20000 in
theorem ggX4_loudestGate_X4_told : GoodIn wsX4_loudestGate wsX4_told := goodIn_r _ [34, 35, 36, 37, 38, 39, 40, 41, 42, 43, 44] (by decide +kernel) (by decide +kernel)
set_option maxRecDepth 20000 in
theorem gX4_loudestGate_X4_told : GoodIn wsX4_loudestGate (wsV RX4 120 RX4 yX4_told wsX4_told) := goodIn_app (goodIn_of _ (by decide +kernel)) ggX4_loudestGate_X4_told
theorem dX4_loudestGate_0 : decode cX4_loudestGate 0 = .ok (.aload_n 0, 1) := by decide +kernel
theorem dX4_loudestGate_1 : decode cX4_loudestGate 1 = .ok (.aload_n 0, 1) := by decide +kernel
theorem dX4_loudestGate_2 : decode cX4_loudestGate 2 = .ok (.invokevirtual 126, 3) := by decide +kernel
theorem dX4_loudestGate_5 : decode cX4_loudestGate 5 = .ok (.invokevirtual 120, 3) := by decide +kernel
theorem dX4_loudestGate_8 : decode cX4_loudestGate 8 = .ok (.ireturn, 1) := by decide +kernel
set_option maxRecDepth 20000 in
theorem ggX4_gateOf_X4_isGoose : GoodIn wsX4_gateOf wsX4_isGoose := goodIn_r _ [7, 8, 9, 10, 6, 11, 16, 17, 18, 19, 20, 21, 22, 23, 24] (by decide +kernel) (by decide +kernel)
set_option maxRecDepth 20000 in
theorem gX4_gateOf_X4_isGoose : GoodIn wsX4_gateOf (wsV RX4 107 RX4 yX4_isGoose wsX4_isGoose) := goodIn_app (goodIn_of _ (by decide +kernel)) ggX4_gateOf_X4_isGoose
set_option maxRecDepth 20000 in
theorem ggX4_gateOf_X4_fail : GoodIn wsX4_gateOf wsX4_fail := goodIn_r _ [15, 1, 16, 17, 18, 19, 20, 21, 22, 23, 24] (by decide +kernel) (by decide +kernel)
set_option maxRecDepth 20000 in
theorem gX4_gateOf_X4_fail : GoodIn wsX4_gateOf (wsV RX4 101 RX4 yX4_fail wsX4_fail) := goodIn_app (goodIn_of _ (by decide +kernel)) ggX4_gateOf_X4_fail
theorem dX4_gateOf_0 : decode cX4_gateOf 0 = .ok (.aload_n 0, 1) := by decide +kernel
theorem dX4_gateOf_1 : decode cX4_gateOf 1 = .ok (.iconst 0, 1) := by decide +kernel
theorem dX4_gateOf_2 : decode cX4_gateOf 2 = .ok (.putfield 25, 3) := by decide +kernel
theorem dX4_gateOf_5 : decode cX4_gateOf 5 = .ok (.aload_n 0, 1) := by decide +kernel
theorem dX4_gateOf_6 : decode cX4_gateOf 6 = .ok (.iload_n 1, 1) := by decide +kernel
theorem dX4_gateOf_7 : decode cX4_gateOf 7 = .ok (.invokevirtual 107, 3) := by decide +kernel
theorem dX4_gateOf_10 : decode cX4_gateOf 10 = .ok (.ifCond .eq 12, 3) := by decide +kernel
theorem dX4_gateOf_13 : decode cX4_gateOf 13 = .ok (.aload_n 0, 1) := by decide +kernel
theorem dX4_gateOf_14 : decode cX4_gateOf 14 = .ok (.getfield 13, 3) := by decide +kernel
theorem dX4_gateOf_17 : decode cX4_gateOf 17 = .ok (.iload_n 1, 1) := by decide +kernel
theorem dX4_gateOf_18 : decode cX4_gateOf 18 = .ok (.iaload, 1) := by decide +kernel
theorem dX4_gateOf_19 : decode cX4_gateOf 19 = .ok (.goto 8, 3) := by decide +kernel
theorem dX4_gateOf_22 : decode cX4_gateOf 22 = .ok (.aload_n 0, 1) := by decide +kernel
theorem dX4_gateOf_23 : decode cX4_gateOf 23 = .ok (.iconst 1, 1) := by decide +kernel
theorem dX4_gateOf_24 : decode cX4_gateOf 24 = .ok (.invokevirtual 101, 3) := by decide +kernel
theorem dX4_gateOf_27 : decode cX4_gateOf 27 = .ok (.ireturn, 1) := by decide +kernel
set_option maxRecDepth 20000 in
theorem ggX4_goose_X4_isGoose : GoodIn wsX4_goose wsX4_isGoose := goodIn_r _ [6, 7, 8, 9, 5, 10, 20, 21, 22, 23, 24, 25, 26, 27, 28] (by decide +kernel) (by decide +kernel)
set_option maxRecDepth 20000 in
theorem gX4_goose_X4_isGoose : GoodIn wsX4_goose (wsV RX4 107 RX4 yX4_isGoose wsX4_isGoose) := goodIn_app (goodIn_of _ (by decide +kernel)) ggX4_goose_X4_isGoose
set_option maxRecDepth 20000 in
theorem ggX4_goose_X4_go : GoodIn wsX4_goose wsX4_go := goodIn_r _ [14, 15, 20, 21, 22, 23, 24, 25, 26, 27, 28] (by decide +kernel) (by decide +kernel)
set_option maxRecDepth 20000 in
theorem gX4_goose_X4_go : GoodIn wsX4_goose (wsV RX4 48 RX4 yX4_go wsX4_go) := goodIn_app (goodIn_of _ (by decide +kernel)) ggX4_goose_X4_go
set_option maxRecDepth 20000 in
theorem ggX4_goose_X4_fail : GoodIn wsX4_goose wsX4_fail := goodIn_r _ [19, 1, 20, 21, 22, 23, 24, 25, 26, 27, 28] (by decide +kernel) (by decide +kernel)
set_option maxRecDepth 20000 in
theorem gX4_goose_X4_fail : GoodIn wsX4_goose (wsV RX4 101 RX4 yX4_fail wsX4_fail) := goodIn_app (goodIn_of _ (by decide +kernel)) ggX4_goose_X4_fail
theorem dX4_goose_0 : decode cX4_goose 0 = .ok (.aload_n 0, 1) := by decide +kernel
theorem dX4_goose_1 : decode cX4_goose 1 = .ok (.iconst 0, 1) := by decide +kernel
theorem dX4_goose_2 : decode cX4_goose 2 = .ok (.putfield 25, 3) := by decide +kernel
theorem dX4_goose_5 : decode cX4_goose 5 = .ok (.aload_n 0, 1) := by decide +kernel
theorem dX4_goose_6 : decode cX4_goose 6 = .ok (.iload_n 1, 1) := by decide +kernel
theorem dX4_goose_7 : decode cX4_goose 7 = .ok (.invokevirtual 107, 3) := by decide +kernel
theorem dX4_goose_10 : decode cX4_goose 10 = .ok (.ifCond .eq 12, 3) := by decide +kernel
theorem dX4_goose_13 : decode cX4_goose 13 = .ok (.aload_n 0, 1) := by decide +kernel
theorem dX4_goose_14 : decode cX4_goose 14 = .ok (.iload_n 1, 1) := by decide +kernel
theorem dX4_goose_15 : decode cX4_goose 15 = .ok (.iload_n 2, 1) := by decide +kernel
theorem dX4_goose_16 : decode cX4_goose 16 = .ok (.invokevirtual 48, 3) := by decide +kernel
theorem dX4_goose_19 : decode cX4_goose 19 = .ok (.goto 8, 3) := by decide +kernel
theorem dX4_goose_22 : decode cX4_goose 22 = .ok (.aload_n 0, 1) := by decide +kernel
theorem dX4_goose_23 : decode cX4_goose 23 = .ok (.iconst 1, 1) := by decide +kernel
theorem dX4_goose_24 : decode cX4_goose 24 = .ok (.invokevirtual 101, 3) := by decide +kernel
theorem dX4_goose_27 : decode cX4_goose 27 = .ok (.ireturn, 1) := by decide +kernel
set_option maxRecDepth 20000 in
theorem ggX4_temperOf_X4_goose : GoodIn wsX4_temperOf wsX4_goose := goodIn_r _ [5, 6, 7, 8, 9, 4, 10, 11, 12, 13, 14, 15, 16, 17, 18, 19, 20, 21, 22, 23, 24, 25, 26, 27, 28, 29, 30, 31, 32] (by decide +kernel) (by decide +kernel)
set_option maxRecDepth 20000 in
theorem gX4_temperOf_X4_goose : GoodIn wsX4_temperOf (wsV RX4 129 RX4 yX4_goose wsX4_goose) := goodIn_app (goodIn_of _ (by decide +kernel)) ggX4_temperOf_X4_goose
theorem dX4_temperOf_0 : decode cX4_temperOf 0 = .ok (.aload_n 0, 1) := by decide +kernel
theorem dX4_temperOf_1 : decode cX4_temperOf 1 = .ok (.iload_n 1, 1) := by decide +kernel
theorem dX4_temperOf_2 : decode cX4_temperOf 2 = .ok (.iconst 0, 1) := by decide +kernel
theorem dX4_temperOf_3 : decode cX4_temperOf 3 = .ok (.invokevirtual 129, 3) := by decide +kernel
theorem dX4_temperOf_6 : decode cX4_temperOf 6 = .ok (.ireturn, 1) := by decide +kernel
set_option maxRecDepth 20000 in
theorem ggX4_calmFor_X4_goose : GoodIn wsX4_calmFor wsX4_goose := goodIn_r _ [5, 6, 7, 8, 9, 4, 10, 11, 12, 13, 14, 15, 16, 17, 18, 19, 20, 21, 22, 23, 24, 25, 26, 27, 28, 29, 30, 31, 32] (by decide +kernel) (by decide +kernel)
set_option maxRecDepth 20000 in
theorem gX4_calmFor_X4_goose : GoodIn wsX4_calmFor (wsV RX4 129 RX4 yX4_goose wsX4_goose) := goodIn_app (goodIn_of _ (by decide +kernel)) ggX4_calmFor_X4_goose
theorem dX4_calmFor_0 : decode cX4_calmFor 0 = .ok (.aload_n 0, 1) := by decide +kernel
theorem dX4_calmFor_1 : decode cX4_calmFor 1 = .ok (.iload_n 1, 1) := by decide +kernel
theorem dX4_calmFor_2 : decode cX4_calmFor 2 = .ok (.iconst 1, 1) := by decide +kernel
theorem dX4_calmFor_3 : decode cX4_calmFor 3 = .ok (.invokevirtual 129, 3) := by decide +kernel
theorem dX4_calmFor_6 : decode cX4_calmFor 6 = .ok (.ireturn, 1) := by decide +kernel
set_option maxRecDepth 20000 in
theorem ggX4_eatenBy_X4_goose : GoodIn wsX4_eatenBy wsX4_goose := goodIn_r _ [5, 6, 7, 8, 9, 4, 10, 11, 12, 13, 14, 15, 16, 17, 18, 19, 20, 21, 22, 23, 24, 25, 26, 27, 28, 29, 30, 31, 32] (by decide +kernel) (by decide +kernel)
set_option maxRecDepth 20000 in
theorem gX4_eatenBy_X4_goose : GoodIn wsX4_eatenBy (wsV RX4 129 RX4 yX4_goose wsX4_goose) := goodIn_app (goodIn_of _ (by decide +kernel)) ggX4_eatenBy_X4_goose
theorem dX4_eatenBy_0 : decode cX4_eatenBy 0 = .ok (.aload_n 0, 1) := by decide +kernel
theorem dX4_eatenBy_1 : decode cX4_eatenBy 1 = .ok (.iload_n 1, 1) := by decide +kernel
theorem dX4_eatenBy_2 : decode cX4_eatenBy 2 = .ok (.iconst 2, 1) := by decide +kernel
theorem dX4_eatenBy_3 : decode cX4_eatenBy 3 = .ok (.invokevirtual 129, 3) := by decide +kernel
theorem dX4_eatenBy_6 : decode cX4_eatenBy 6 = .ok (.ireturn, 1) := by decide +kernel
set_option maxRecDepth 20000 in
theorem ggX4_visitor_X4_isVisitor : GoodIn wsX4_visitor wsX4_isVisitor := goodIn_r _ [6, 7, 8, 9, 5, 10, 20, 21, 22, 23, 24, 25, 26, 27, 28] (by decide +kernel) (by decide +kernel)
set_option maxRecDepth 20000 in
theorem gX4_visitor_X4_isVisitor : GoodIn wsX4_visitor (wsV RX4 110 RX4 yX4_isVisitor wsX4_isVisitor) := goodIn_app (goodIn_of _ (by decide +kernel)) ggX4_visitor_X4_isVisitor
set_option maxRecDepth 20000 in
theorem ggX4_visitor_X4_vi : GoodIn wsX4_visitor wsX4_vi := goodIn_r _ [14, 15, 20, 21, 22, 23, 24, 25, 26, 27, 28] (by decide +kernel) (by decide +kernel)
set_option maxRecDepth 20000 in
theorem gX4_visitor_X4_vi : GoodIn wsX4_visitor (wsV RX4 64 RX4 yX4_vi wsX4_vi) := goodIn_app (goodIn_of _ (by decide +kernel)) ggX4_visitor_X4_vi
set_option maxRecDepth 20000 in
theorem ggX4_visitor_X4_fail : GoodIn wsX4_visitor wsX4_fail := goodIn_r _ [19, 1, 20, 21, 22, 23, 24, 25, 26, 27, 28] (by decide +kernel) (by decide +kernel)
set_option maxRecDepth 20000 in
theorem gX4_visitor_X4_fail : GoodIn wsX4_visitor (wsV RX4 101 RX4 yX4_fail wsX4_fail) := goodIn_app (goodIn_of _ (by decide +kernel)) ggX4_visitor_X4_fail
theorem dX4_visitor_0 : decode cX4_visitor 0 = .ok (.aload_n 0, 1) := by decide +kernel
theorem dX4_visitor_1 : decode cX4_visitor 1 = .ok (.iconst 0, 1) := by decide +kernel
theorem dX4_visitor_2 : decode cX4_visitor 2 = .ok (.putfield 25, 3) := by decide +kernel
theorem dX4_visitor_5 : decode cX4_visitor 5 = .ok (.aload_n 0, 1) := by decide +kernel
theorem dX4_visitor_6 : decode cX4_visitor 6 = .ok (.iload_n 1, 1) := by decide +kernel
theorem dX4_visitor_7 : decode cX4_visitor 7 = .ok (.invokevirtual 110, 3) := by decide +kernel
theorem dX4_visitor_10 : decode cX4_visitor 10 = .ok (.ifCond .eq 12, 3) := by decide +kernel
theorem dX4_visitor_13 : decode cX4_visitor 13 = .ok (.aload_n 0, 1) := by decide +kernel
theorem dX4_visitor_14 : decode cX4_visitor 14 = .ok (.iload_n 1, 1) := by decide +kernel
theorem dX4_visitor_15 : decode cX4_visitor 15 = .ok (.iload_n 2, 1) := by decide +kernel
theorem dX4_visitor_16 : decode cX4_visitor 16 = .ok (.invokevirtual 64, 3) := by decide +kernel
theorem dX4_visitor_19 : decode cX4_visitor 19 = .ok (.goto 8, 3) := by decide +kernel
theorem dX4_visitor_22 : decode cX4_visitor 22 = .ok (.aload_n 0, 1) := by decide +kernel
theorem dX4_visitor_23 : decode cX4_visitor 23 = .ok (.iconst 1, 1) := by decide +kernel
theorem dX4_visitor_24 : decode cX4_visitor 24 = .ok (.invokevirtual 101, 3) := by decide +kernel
theorem dX4_visitor_27 : decode cX4_visitor 27 = .ok (.ireturn, 1) := by decide +kernel
set_option maxRecDepth 20000 in
theorem ggX4_passedBy_X4_visitor : GoodIn wsX4_passedBy wsX4_visitor := goodIn_r _ [5, 6, 7, 8, 9, 4, 10, 11, 12, 13, 14, 15, 16, 17, 18, 19, 20, 21, 22, 23, 24, 25, 26, 27, 28, 29, 30, 31, 32] (by decide +kernel) (by decide +kernel)
set_option maxRecDepth 20000 in
theorem gX4_passedBy_X4_visitor : GoodIn wsX4_passedBy (wsV RX4 132 RX4 yX4_visitor wsX4_visitor) := goodIn_app (goodIn_of _ (by decide +kernel)) ggX4_passedBy_X4_visitor
theorem dX4_passedBy_0 : decode cX4_passedBy 0 = .ok (.aload_n 0, 1) := by decide +kernel
theorem dX4_passedBy_1 : decode cX4_passedBy 1 = .ok (.iload_n 1, 1) := by decide +kernel
theorem dX4_passedBy_2 : decode cX4_passedBy 2 = .ok (.iconst 0, 1) := by decide +kernel
theorem dX4_passedBy_3 : decode cX4_passedBy 3 = .ok (.invokevirtual 132, 3) := by decide +kernel
theorem dX4_passedBy_6 : decode cX4_passedBy 6 = .ok (.ireturn, 1) := by decide +kernel
set_option maxRecDepth 20000 in
theorem ggX4_isInFarm_X4_isVisitor : GoodIn wsX4_isInFarm wsX4_isVisitor := goodIn_r _ [6, 7, 8, 9, 5, 10, 21, 22, 23, 24, 25, 26, 27, 28, 29] (by decide +kernel) (by decide +kernel)
set_option maxRecDepth 20000 in
theorem gX4_isInFarm_X4_isVisitor : GoodIn wsX4_isInFarm (wsV RX4 110 RX4 yX4_isVisitor wsX4_isVisitor) := goodIn_app (goodIn_of _ (by decide +kernel)) ggX4_isInFarm_X4_isVisitor
set_option maxRecDepth 20000 in
theorem ggX4_isInFarm_X4_isIn_ : GoodIn wsX4_isInFarm wsX4_isIn_ := goodIn_r _ [14, 15, 16, 17, 18, 5, 19, 20, 21, 22, 23, 24, 25, 26, 27, 28, 29] (by decide +kernel) (by decide +kernel)
set_option maxRecDepth 20000 in
theorem gX4_isInFarm_X4_isIn_ : GoodIn wsX4_isInFarm (wsV RX4 67 RX4 yX4_isIn_ wsX4_isIn_) := goodIn_app (goodIn_of _ (by decide +kernel)) ggX4_isInFarm_X4_isIn_
theorem dX4_isInFarm_0 : decode cX4_isInFarm 0 = .ok (.aload_n 0, 1) := by decide +kernel
theorem dX4_isInFarm_1 : decode cX4_isInFarm 1 = .ok (.aload_n 0, 1) := by decide +kernel
theorem dX4_isInFarm_2 : decode cX4_isInFarm 2 = .ok (.iload_n 1, 1) := by decide +kernel
theorem dX4_isInFarm_3 : decode cX4_isInFarm 3 = .ok (.invokevirtual 110, 3) := by decide +kernel
theorem dX4_isInFarm_6 : decode cX4_isInFarm 6 = .ok (.ifCond .eq 7, 3) := by decide +kernel
theorem dX4_isInFarm_9 : decode cX4_isInFarm 9 = .ok (.iconst 0, 1) := by decide +kernel
theorem dX4_isInFarm_10 : decode cX4_isInFarm 10 = .ok (.goto 4, 3) := by decide +kernel
theorem dX4_isInFarm_13 : decode cX4_isInFarm 13 = .ok (.iconst 1, 1) := by decide +kernel
theorem dX4_isInFarm_14 : decode cX4_isInFarm 14 = .ok (.putfield 25, 3) := by decide +kernel
theorem dX4_isInFarm_17 : decode cX4_isInFarm 17 = .ok (.aload_n 0, 1) := by decide +kernel
theorem dX4_isInFarm_18 : decode cX4_isInFarm 18 = .ok (.getfield 25, 3) := by decide +kernel
theorem dX4_isInFarm_21 : decode cX4_isInFarm 21 = .ok (.ifCond .ne 15, 3) := by decide +kernel
theorem dX4_isInFarm_24 : decode cX4_isInFarm 24 = .ok (.aload_n 0, 1) := by decide +kernel
theorem dX4_isInFarm_25 : decode cX4_isInFarm 25 = .ok (.iload_n 1, 1) := by decide +kernel
theorem dX4_isInFarm_26 : decode cX4_isInFarm 26 = .ok (.invokevirtual 67, 3) := by decide +kernel
theorem dX4_isInFarm_29 : decode cX4_isInFarm 29 = .ok (.ifCond .eq 7, 3) := by decide +kernel
theorem dX4_isInFarm_32 : decode cX4_isInFarm 32 = .ok (.iconst 1, 1) := by decide +kernel
theorem dX4_isInFarm_33 : decode cX4_isInFarm 33 = .ok (.goto 4, 3) := by decide +kernel
theorem dX4_isInFarm_36 : decode cX4_isInFarm 36 = .ok (.iconst 0, 1) := by decide +kernel
theorem dX4_isInFarm_37 : decode cX4_isInFarm 37 = .ok (.ireturn, 1) := by decide +kernel
set_option maxRecDepth 20000 in
theorem ggX4_cornsOf_X4_visitor : GoodIn wsX4_cornsOf wsX4_visitor := goodIn_r _ [5, 6, 7, 8, 9, 4, 10, 11, 12, 13, 14, 15, 16, 17, 18, 19, 20, 21, 22, 23, 24, 25, 26, 27, 28, 29, 30, 31, 32] (by decide +kernel) (by decide +kernel)
set_option maxRecDepth 20000 in
theorem gX4_cornsOf_X4_visitor : GoodIn wsX4_cornsOf (wsV RX4 132 RX4 yX4_visitor wsX4_visitor) := goodIn_app (goodIn_of _ (by decide +kernel)) ggX4_cornsOf_X4_visitor
theorem dX4_cornsOf_0 : decode cX4_cornsOf 0 = .ok (.aload_n 0, 1) := by decide +kernel
theorem dX4_cornsOf_1 : decode cX4_cornsOf 1 = .ok (.iload_n 1, 1) := by decide +kernel
theorem dX4_cornsOf_2 : decode cX4_cornsOf 2 = .ok (.iconst 1, 1) := by decide +kernel
theorem dX4_cornsOf_3 : decode cX4_cornsOf 3 = .ok (.invokevirtual 132, 3) := by decide +kernel
theorem dX4_cornsOf_6 : decode cX4_cornsOf 6 = .ok (.ireturn, 1) := by decide +kernel
set_option maxRecDepth 20000 in
theorem ggX4_nerveOf_X4_visitor : GoodIn wsX4_nerveOf wsX4_visitor := goodIn_r _ [5, 6, 7, 8, 9, 4, 10, 11, 12, 13, 14, 15, 16, 17, 18, 19, 20, 21, 22, 23, 24, 25, 26, 27, 28, 29, 30, 31, 32] (by decide +kernel) (by decide +kernel)
set_option maxRecDepth 20000 in
theorem gX4_nerveOf_X4_visitor : GoodIn wsX4_nerveOf (wsV RX4 132 RX4 yX4_visitor wsX4_visitor) := goodIn_app (goodIn_of _ (by decide +kernel)) ggX4_nerveOf_X4_visitor
theorem dX4_nerveOf_0 : decode cX4_nerveOf 0 = .ok (.aload_n 0, 1) := by decide +kernel
theorem dX4_nerveOf_1 : decode cX4_nerveOf 1 = .ok (.iload_n 1, 1) := by decide +kernel
theorem dX4_nerveOf_2 : decode cX4_nerveOf 2 = .ok (.iconst 2, 1) := by decide +kernel
theorem dX4_nerveOf_3 : decode cX4_nerveOf 3 = .ok (.invokevirtual 132, 3) := by decide +kernel
theorem dX4_nerveOf_6 : decode cX4_nerveOf 6 = .ok (.ireturn, 1) := by decide +kernel
set_option maxRecDepth 20000 in
theorem ggX4_retreatOf_X4_visitor : GoodIn wsX4_retreatOf wsX4_visitor := goodIn_r _ [5, 6, 7, 8, 9, 4, 10, 11, 12, 13, 14, 15, 16, 17, 18, 19, 20, 21, 22, 23, 24, 25, 26, 27, 28, 29, 30, 31, 32] (by decide +kernel) (by decide +kernel)
set_option maxRecDepth 20000 in
theorem gX4_retreatOf_X4_visitor : GoodIn wsX4_retreatOf (wsV RX4 132 RX4 yX4_visitor wsX4_visitor) := goodIn_app (goodIn_of _ (by decide +kernel)) ggX4_retreatOf_X4_visitor
theorem dX4_retreatOf_0 : decode cX4_retreatOf 0 = .ok (.aload_n 0, 1) := by decide +kernel
theorem dX4_retreatOf_1 : decode cX4_retreatOf 1 = .ok (.iload_n 1, 1) := by decide +kernel
theorem dX4_retreatOf_2 : decode cX4_retreatOf 2 = .ok (.iconst 3, 1) := by decide +kernel
theorem dX4_retreatOf_3 : decode cX4_retreatOf 3 = .ok (.invokevirtual 132, 3) := by decide +kernel
theorem dX4_retreatOf_6 : decode cX4_retreatOf 6 = .ok (.ireturn, 1) := by decide +kernel
set_option maxRecDepth 20000 in
theorem ggX4_hissAt_X4_isVisitor : GoodIn wsX4_hissAt wsX4_isVisitor := goodIn_r _ [6, 7, 8, 9, 5, 10, 53, 54, 55, 56, 57, 58, 59, 60, 61] (by decide +kernel) (by decide +kernel)
set_option maxRecDepth 20000 in
theorem gX4_hissAt_X4_isVisitor : GoodIn wsX4_hissAt (wsV RX4 110 RX4 yX4_isVisitor wsX4_isVisitor) := goodIn_app (goodIn_of _ (by decide +kernel)) ggX4_hissAt_X4_isVisitor
set_option maxRecDepth 20000 in
theorem ggX4_hissAt_X4_hissNow : GoodIn wsX4_hissAt wsX4_hissNow := goodIn_r _ [14, 15, 16, 17, 18, 5, 19, 20, 21, 22, 23, 24, 25, 26, 27, 28, 29, 30, 31, 32, 33, 34, 35, 36, 37, 38, 39, 40, 41, 42, 43, 44, 45, 46, 47, 48, 53, 54, 55, 56, 57, 58, 59, 60, 61] (by decide +kernel) (by decide +kernel)
set_option maxRecDepth 20000 in
theorem gX4_hissAt_X4_hissNow : GoodIn wsX4_hissAt (wsV RX4 135 RX4 yX4_hissNow wsX4_hissNow) := goodIn_app (goodIn_of _ (by decide +kernel)) ggX4_hissAt_X4_hissNow
set_option maxRecDepth 20000 in
theorem ggX4_hissAt_X4_fail : GoodIn wsX4_hissAt wsX4_fail := goodIn_r _ [52, 1, 53, 54, 55, 56, 57, 58, 59, 60, 61] (by decide +kernel) (by decide +kernel)
set_option maxRecDepth 20000 in
theorem gX4_hissAt_X4_fail : GoodIn wsX4_hissAt (wsV RX4 101 RX4 yX4_fail wsX4_fail) := goodIn_app (goodIn_of _ (by decide +kernel)) ggX4_hissAt_X4_fail
theorem dX4_hissAt_0 : decode cX4_hissAt 0 = .ok (.aload_n 0, 1) := by decide +kernel
theorem dX4_hissAt_1 : decode cX4_hissAt 1 = .ok (.iconst 0, 1) := by decide +kernel
theorem dX4_hissAt_2 : decode cX4_hissAt 2 = .ok (.putfield 25, 3) := by decide +kernel
theorem dX4_hissAt_5 : decode cX4_hissAt 5 = .ok (.aload_n 0, 1) := by decide +kernel
theorem dX4_hissAt_6 : decode cX4_hissAt 6 = .ok (.iload_n 1, 1) := by decide +kernel
theorem dX4_hissAt_7 : decode cX4_hissAt 7 = .ok (.invokevirtual 110, 3) := by decide +kernel
theorem dX4_hissAt_10 : decode cX4_hissAt 10 = .ok (.ifCond .eq 11, 3) := by decide +kernel
theorem dX4_hissAt_13 : decode cX4_hissAt 13 = .ok (.aload_n 0, 1) := by decide +kernel
theorem dX4_hissAt_14 : decode cX4_hissAt 14 = .ok (.iload_n 1, 1) := by decide +kernel
theorem dX4_hissAt_15 : decode cX4_hissAt 15 = .ok (.invokevirtual 135, 3) := by decide +kernel
theorem dX4_hissAt_18 : decode cX4_hissAt 18 = .ok (.goto 8, 3) := by decide +kernel
theorem dX4_hissAt_21 : decode cX4_hissAt 21 = .ok (.aload_n 0, 1) := by decide +kernel
theorem dX4_hissAt_22 : decode cX4_hissAt 22 = .ok (.iconst 1, 1) := by decide +kernel
theorem dX4_hissAt_23 : decode cX4_hissAt 23 = .ok (.invokevirtual 101, 3) := by decide +kernel
theorem dX4_hissAt_26 : decode cX4_hissAt 26 = .ok (.ireturn, 1) := by decide +kernel
set_option maxRecDepth 20000 in
theorem ggX4_gradeFor_X4_isVisitor : GoodIn wsX4_gradeFor wsX4_isVisitor := goodIn_r _ [6, 7, 8, 9, 5, 10, 56, 57, 58, 59, 60, 61, 62, 63, 64] (by decide +kernel) (by decide +kernel)
set_option maxRecDepth 20000 in
theorem gX4_gradeFor_X4_isVisitor : GoodIn wsX4_gradeFor (wsV RX4 110 RX4 yX4_isVisitor wsX4_isVisitor) := goodIn_app (goodIn_of _ (by decide +kernel)) ggX4_gradeFor_X4_isVisitor
set_option maxRecDepth 20000 in
theorem ggX4_gradeFor_X4_hissNow : GoodIn wsX4_gradeFor wsX4_hissNow := goodIn_r _ [14, 15, 16, 17, 18, 5, 19, 20, 21, 22, 23, 24, 25, 26, 27, 28, 29, 30, 31, 32, 33, 34, 35, 36, 37, 38, 39, 40, 41, 42, 43, 44, 45, 46, 47, 48, 56, 57, 58, 59, 60, 61, 62, 63, 64] (by decide +kernel) (by decide +kernel)
set_option maxRecDepth 20000 in
theorem gX4_gradeFor_X4_hissNow : GoodIn wsX4_gradeFor (wsV RX4 135 RX4 yX4_hissNow wsX4_hissNow) := goodIn_app (goodIn_of _ (by decide +kernel)) ggX4_gradeFor_X4_hissNow
set_option maxRecDepth 20000 in
theorem ggX4_gradeFor_X4_grade : GoodIn wsX4_gradeFor wsX4_grade := goodIn_r _ [51] (by decide +kernel) (by decide +kernel)
set_option maxRecDepth 20000 in
theorem gX4_gradeFor_X4_grade : GoodIn wsX4_gradeFor (va_wsS RX4 91 yX4_grade wsX4_grade) := goodIn_app (goodIn_of _ (by decide +kernel)) ggX4_gradeFor_X4_grade
set_option maxRecDepth 20000 in
theorem ggX4_gradeFor_X4_fail : GoodIn wsX4_gradeFor wsX4_fail := goodIn_r _ [55, 1, 56, 57, 58, 59, 60, 61, 62, 63, 64] (by decide +kernel) (by decide +kernel)
set_option maxRecDepth 20000 in
theorem gX4_gradeFor_X4_fail : GoodIn wsX4_gradeFor (wsV RX4 101 RX4 yX4_fail wsX4_fail) := goodIn_app (goodIn_of _ (by decide +kernel)) ggX4_gradeFor_X4_fail
theorem dX4_gradeFor_0 : decode cX4_gradeFor 0 = .ok (.aload_n 0, 1) := by decide +kernel
theorem dX4_gradeFor_1 : decode cX4_gradeFor 1 = .ok (.iconst 0, 1) := by decide +kernel
theorem dX4_gradeFor_2 : decode cX4_gradeFor 2 = .ok (.putfield 25, 3) := by decide +kernel
theorem dX4_gradeFor_5 : decode cX4_gradeFor 5 = .ok (.aload_n 0, 1) := by decide +kernel
theorem dX4_gradeFor_6 : decode cX4_gradeFor 6 = .ok (.iload_n 1, 1) := by decide +kernel
theorem dX4_gradeFor_7 : decode cX4_gradeFor 7 = .ok (.invokevirtual 110, 3) := by decide +kernel
theorem dX4_gradeFor_10 : decode cX4_gradeFor 10 = .ok (.ifCond .eq 14, 3) := by decide +kernel
theorem dX4_gradeFor_13 : decode cX4_gradeFor 13 = .ok (.aload_n 0, 1) := by decide +kernel
theorem dX4_gradeFor_14 : decode cX4_gradeFor 14 = .ok (.iload_n 1, 1) := by decide +kernel
theorem dX4_gradeFor_15 : decode cX4_gradeFor 15 = .ok (.invokevirtual 135, 3) := by decide +kernel
theorem dX4_gradeFor_18 : decode cX4_gradeFor 18 = .ok (.invokestatic 91, 3) := by decide +kernel
theorem dX4_gradeFor_21 : decode cX4_gradeFor 21 = .ok (.goto 8, 3) := by decide +kernel
theorem dX4_gradeFor_24 : decode cX4_gradeFor 24 = .ok (.aload_n 0, 1) := by decide +kernel
theorem dX4_gradeFor_25 : decode cX4_gradeFor 25 = .ok (.iconst 1, 1) := by decide +kernel
theorem dX4_gradeFor_26 : decode cX4_gradeFor 26 = .ok (.invokevirtual 101, 3) := by decide +kernel
theorem dX4_gradeFor_29 : decode cX4_gradeFor 29 = .ok (.ireturn, 1) := by decide +kernel
set_option maxRecDepth 20000 in
theorem ggX4_dare_X4_isIn_ : GoodIn wsX4_dare wsX4_isIn_ := goodIn_r _ [5, 6, 7, 8, 9, 4, 10, 11, 40, 41, 42, 43, 44, 45, 46, 47, 48] (by decide +kernel) (by decide +kernel)
set_option maxRecDepth 20000 in
theorem gX4_dare_X4_isIn_ : GoodIn wsX4_dare (wsV RX4 67 RX4 yX4_isIn_ wsX4_isIn_) := goodIn_app (goodIn_of _ (by decide +kernel)) ggX4_dare_X4_isIn_
set_option maxRecDepth 20000 in
theorem ggX4_dare_X4_hissNow : GoodIn wsX4_dare wsX4_hissNow := goodIn_r _ [15, 16, 1, 2, 3, 4, 5, 6, 7, 8, 9, 10, 11, 17, 18, 19, 20, 21, 22, 23, 24, 25, 26, 27, 28, 29, 30, 31, 32, 33, 34, 35, 36, 37, 38, 39, 40, 41, 42, 43, 44, 45, 46, 47, 48] (by decide +kernel) (by decide +kernel)
set_option maxRecDepth 20000 in
theorem gX4_dare_X4_hissNow : GoodIn wsX4_dare (wsV RX4 135 RX4 yX4_hissNow wsX4_hissNow) := goodIn_app (goodIn_of _ (by decide +kernel)) ggX4_dare_X4_hissNow
set_option maxRecDepth 20000 in
theorem ggX4_dare_X4_vi : GoodIn wsX4_dare wsX4_vi := goodIn_r _ [10, 11, 40, 41, 42, 43, 44, 45, 46, 47, 48] (by decide +kernel) (by decide +kernel)
set_option maxRecDepth 20000 in
theorem gX4_dare_X4_vi : GoodIn wsX4_dare (wsV RX4 64 RX4 yX4_vi wsX4_vi) := goodIn_app (goodIn_of _ (by decide +kernel)) ggX4_dare_X4_vi
theorem dX4_dare_0 : decode cX4_dare 0 = .ok (.aload_n 0, 1) := by decide +kernel
theorem dX4_dare_1 : decode cX4_dare 1 = .ok (.iload_n 1, 1) := by decide +kernel
theorem dX4_dare_2 : decode cX4_dare 2 = .ok (.invokevirtual 67, 3) := by decide +kernel
theorem dX4_dare_5 : decode cX4_dare 5 = .ok (.ifCond .ne 21, 3) := by decide +kernel
theorem dX4_dare_8 : decode cX4_dare 8 = .ok (.aload_n 0, 1) := by decide +kernel
theorem dX4_dare_9 : decode cX4_dare 9 = .ok (.iload_n 1, 1) := by decide +kernel
theorem dX4_dare_10 : decode cX4_dare 10 = .ok (.invokevirtual 135, 3) := by decide +kernel
theorem dX4_dare_13 : decode cX4_dare 13 = .ok (.aload_n 0, 1) := by decide +kernel
theorem dX4_dare_14 : decode cX4_dare 14 = .ok (.iload_n 1, 1) := by decide +kernel
theorem dX4_dare_15 : decode cX4_dare 15 = .ok (.iconst 2, 1) := by decide +kernel
theorem dX4_dare_16 : decode cX4_dare 16 = .ok (.invokevirtual 64, 3) := by decide +kernel
theorem dX4_dare_19 : decode cX4_dare 19 = .ok (.if_icmp .gt 7, 3) := by decide +kernel
theorem dX4_dare_22 : decode cX4_dare 22 = .ok (.iconst 1, 1) := by decide +kernel
theorem dX4_dare_23 : decode cX4_dare 23 = .ok (.goto 4, 3) := by decide +kernel
theorem dX4_dare_26 : decode cX4_dare 26 = .ok (.iconst 0, 1) := by decide +kernel
theorem dX4_dare_27 : decode cX4_dare 27 = .ok (.ireturn, 1) := by decide +kernel
set_option maxRecDepth 20000 in
theorem ggX4_dares_X4_isVisitor : GoodIn wsX4_dares wsX4_isVisitor := goodIn_r _ [6, 7, 8, 9, 5, 10, 53, 54, 55, 56, 57, 58, 59, 60, 61] (by decide +kernel) (by decide +kernel)
set_option maxRecDepth 20000 in
theorem gX4_dares_X4_isVisitor : GoodIn wsX4_dares (wsV RX4 110 RX4 yX4_isVisitor wsX4_isVisitor) := goodIn_app (goodIn_of _ (by decide +kernel)) ggX4_dares_X4_isVisitor
set_option maxRecDepth 20000 in
theorem ggX4_dares_X4_dare : GoodIn wsX4_dares wsX4_dare := goodIn_r _ [14, 15, 16, 17, 5, 18, 19, 20, 21, 22, 23, 24, 25, 26, 27, 28, 29, 30, 31, 32, 33, 34, 35, 36, 37, 38, 39, 40, 41, 42, 43, 44, 45, 46, 47, 48, 49, 50, 51, 52, 53, 54, 55, 56, 57, 58, 59, 60, 61] (by decide +kernel) (by decide +kernel)
set_option maxRecDepth 20000 in
theorem gX4_dares_X4_dare : GoodIn wsX4_dares (wsV RX4 138 RX4 yX4_dare wsX4_dare) := goodIn_app (goodIn_of _ (by decide +kernel)) ggX4_dares_X4_dare
theorem dX4_dares_0 : decode cX4_dares 0 = .ok (.aload_n 0, 1) := by decide +kernel
theorem dX4_dares_1 : decode cX4_dares 1 = .ok (.aload_n 0, 1) := by decide +kernel
theorem dX4_dares_2 : decode cX4_dares 2 = .ok (.iload_n 1, 1) := by decide +kernel
theorem dX4_dares_3 : decode cX4_dares 3 = .ok (.invokevirtual 110, 3) := by decide +kernel
theorem dX4_dares_6 : decode cX4_dares 6 = .ok (.ifCond .eq 7, 3) := by decide +kernel
theorem dX4_dares_9 : decode cX4_dares 9 = .ok (.iconst 0, 1) := by decide +kernel
theorem dX4_dares_10 : decode cX4_dares 10 = .ok (.goto 4, 3) := by decide +kernel
theorem dX4_dares_13 : decode cX4_dares 13 = .ok (.iconst 1, 1) := by decide +kernel
theorem dX4_dares_14 : decode cX4_dares 14 = .ok (.putfield 25, 3) := by decide +kernel
theorem dX4_dares_17 : decode cX4_dares 17 = .ok (.aload_n 0, 1) := by decide +kernel
theorem dX4_dares_18 : decode cX4_dares 18 = .ok (.getfield 25, 3) := by decide +kernel
theorem dX4_dares_21 : decode cX4_dares 21 = .ok (.ifCond .ne 15, 3) := by decide +kernel
theorem dX4_dares_24 : decode cX4_dares 24 = .ok (.aload_n 0, 1) := by decide +kernel
theorem dX4_dares_25 : decode cX4_dares 25 = .ok (.iload_n 1, 1) := by decide +kernel
theorem dX4_dares_26 : decode cX4_dares 26 = .ok (.invokevirtual 138, 3) := by decide +kernel
theorem dX4_dares_29 : decode cX4_dares 29 = .ok (.ifCond .eq 7, 3) := by decide +kernel
theorem dX4_dares_32 : decode cX4_dares 32 = .ok (.iconst 1, 1) := by decide +kernel
theorem dX4_dares_33 : decode cX4_dares 33 = .ok (.goto 4, 3) := by decide +kernel
theorem dX4_dares_36 : decode cX4_dares 36 = .ok (.iconst 0, 1) := by decide +kernel
theorem dX4_dares_37 : decode cX4_dares 37 = .ok (.ireturn, 1) := by decide +kernel
set_option maxRecDepth 20000 in
theorem ggX4_run_X4_isIn_ : GoodIn wsX4_run wsX4_isIn_ := goodIn_r _ [5, 6, 7, 8, 9, 4, 10, 11, 67, 68, 69, 70, 71, 72, 73, 74, 75] (by decide +kernel) (by decide +kernel)
set_option maxRecDepth 20000 in
theorem gX4_run_X4_isIn_ : GoodIn wsX4_run (wsV RX4 67 RX4 yX4_isIn_ wsX4_isIn_) := goodIn_app (goodIn_of _ (by decide +kernel)) ggX4_run_X4_isIn_
set_option maxRecDepth 20000 in
theorem ggX4_run_X4_beatOn : GoodIn wsX4_run wsX4_beatOn := goodIn_r _ [15, 16, 17, 11, 18, 19, 20, 4, 21, 22, 23, 24, 25, 26, 27, 28, 29, 30, 31, 32, 33, 34, 35, 36, 37, 1, 2, 3, 5, 6, 7, 8, 9, 10, 38, 39, 40, 41, 42, 43, 44, 45, 46, 47, 48, 49, 50, 51, 52, 53, 54, 55, 56, 57, 58, 59, 60, 61, 62, 63, 64, 65, 66, 67, 68, 69, 70, 71, 72, 73, 74, 75] (by decide +kernel) (by decide +kernel)
set_option maxRecDepth 20000 in
theorem gX4_run_X4_beatOn : GoodIn wsX4_run (wsV RX4 98 RX4 yX4_beatOn wsX4_beatOn) := goodIn_app (goodIn_of _ (by decide +kernel)) ggX4_run_X4_beatOn
theorem dX4_run_0 : decode cX4_run 0 = .ok (.iconst 0, 1) := by decide +kernel
theorem dX4_run_1 : decode cX4_run 1 = .ok (.istore_n 3, 1) := by decide +kernel
theorem dX4_run_2 : decode cX4_run 2 = .ok (.iload_n 3, 1) := by decide +kernel
theorem dX4_run_3 : decode cX4_run 3 = .ok (.iload_n 2, 1) := by decide +kernel
theorem dX4_run_4 : decode cX4_run 4 = .ok (.if_icmp .gt 21, 3) := by decide +kernel
theorem dX4_run_7 : decode cX4_run 7 = .ok (.aload_n 0, 1) := by decide +kernel
theorem dX4_run_8 : decode cX4_run 8 = .ok (.iload_n 1, 1) := by decide +kernel
theorem dX4_run_9 : decode cX4_run 9 = .ok (.invokevirtual 67, 3) := by decide +kernel
theorem dX4_run_12 : decode cX4_run 12 = .ok (.ifCond .ne 13, 3) := by decide +kernel
theorem dX4_run_15 : decode cX4_run 15 = .ok (.aload_n 0, 1) := by decide +kernel
theorem dX4_run_16 : decode cX4_run 16 = .ok (.invokevirtual 98, 3) := by decide +kernel
theorem dX4_run_19 : decode cX4_run 19 = .ok (.iinc 3 1, 3) := by decide +kernel
theorem dX4_run_22 : decode cX4_run 22 = .ok (.goto (-20), 3) := by decide +kernel
theorem dX4_run_25 : decode cX4_run 25 = .ok (.iload_n 3, 1) := by decide +kernel
theorem dX4_run_26 : decode cX4_run 26 = .ok (.iload_n 2, 1) := by decide +kernel
theorem dX4_run_27 : decode cX4_run 27 = .ok (.if_icmp .le 7, 3) := by decide +kernel
theorem dX4_run_30 : decode cX4_run 30 = .ok (.iconst (-1), 1) := by decide +kernel
theorem dX4_run_31 : decode cX4_run 31 = .ok (.goto 4, 3) := by decide +kernel
theorem dX4_run_34 : decode cX4_run 34 = .ok (.iload_n 3, 1) := by decide +kernel
theorem dX4_run_35 : decode cX4_run 35 = .ok (.ireturn, 1) := by decide +kernel
set_option maxRecDepth 20000 in
theorem ggX4_until_X4_keep : GoodIn wsX4_until wsX4_keep := goodIn_r _ [5, 6, 7, 8, 9, 10, 11, 84, 85, 86, 87, 88, 89, 90, 91, 92] (by decide +kernel) (by decide +kernel)
set_option maxRecDepth 20000 in
theorem gX4_until_X4_keep : GoodIn wsX4_until (wsV RX4 141 RX4 yX4_keep wsX4_keep) := goodIn_app (goodIn_of _ (by decide +kernel)) ggX4_until_X4_keep
set_option maxRecDepth 20000 in
theorem ggX4_until_X4_run : GoodIn wsX4_until wsX4_run := goodIn_r _ [15, 16, 17, 18, 4, 19, 20, 21, 22, 23, 24, 6, 25, 26, 27, 28, 29, 30, 31, 32, 33, 34, 35, 36, 37, 38, 39, 40, 41, 42, 43, 44, 45, 46, 47, 48, 49, 50, 51, 52, 53, 54, 55, 56, 57, 58, 59, 60, 61, 62, 63, 64, 65, 66, 67, 68, 69, 70, 71, 72, 73, 74, 75, 76, 77, 78, 79, 84, 85, 86, 87, 88, 89, 90, 91, 92] (by decide +kernel) (by decide +kernel)
set_option maxRecDepth 20000 in
theorem gX4_until_X4_run : GoodIn wsX4_until (wsV RX4 144 RX4 yX4_run wsX4_run) := goodIn_app (goodIn_of _ (by decide +kernel)) ggX4_until_X4_run
set_option maxRecDepth 20000 in
theorem ggX4_until_X4_bringBack : GoodIn wsX4_until wsX4_bringBack := goodIn_r _ [83, 7, 6, 8, 9, 10, 11, 84, 85, 86, 87, 88, 89, 90, 91, 92] (by decide +kernel) (by decide +kernel)
set_option maxRecDepth 20000 in
theorem gX4_until_X4_bringBack : GoodIn wsX4_until (wsV RX4 147 RX4 yX4_bringBack wsX4_bringBack) := goodIn_app (goodIn_of _ (by decide +kernel)) ggX4_until_X4_bringBack
theorem dX4_until_0 : decode cX4_until 0 = .ok (.aload_n 0, 1) := by decide +kernel
theorem dX4_until_1 : decode cX4_until 1 = .ok (.invokevirtual 141, 3) := by decide +kernel
theorem dX4_until_4 : decode cX4_until 4 = .ok (.aload_n 0, 1) := by decide +kernel
theorem dX4_until_5 : decode cX4_until 5 = .ok (.iload_n 1, 1) := by decide +kernel
theorem dX4_until_6 : decode cX4_until 6 = .ok (.bipush 60, 2) := by decide +kernel
theorem dX4_until_8 : decode cX4_until 8 = .ok (.invokevirtual 144, 3) := by decide +kernel
theorem dX4_until_11 : decode cX4_until 11 = .ok (.istore_n 2, 1) := by decide +kernel
theorem dX4_until_12 : decode cX4_until 12 = .ok (.aload_n 0, 1) := by decide +kernel
theorem dX4_until_13 : decode cX4_until 13 = .ok (.invokevirtual 147, 3) := by decide +kernel
theorem dX4_until_16 : decode cX4_until 16 = .ok (.iload_n 2, 1) := by decide +kernel
theorem dX4_until_17 : decode cX4_until 17 = .ok (.ireturn, 1) := by decide +kernel
set_option maxRecDepth 20000 in
theorem ggX4_beatsUntilIn_X4_isVisitor : GoodIn wsX4_beatsUntilIn wsX4_isVisitor := goodIn_r _ [6, 7, 8, 9, 5, 10, 100, 101, 102, 103, 104, 105, 106, 107, 108] (by decide +kernel) (by decide +kernel)
set_option maxRecDepth 20000 in
theorem gX4_beatsUntilIn_X4_isVisitor : GoodIn wsX4_beatsUntilIn (wsV RX4 110 RX4 yX4_isVisitor wsX4_isVisitor) := goodIn_app (goodIn_of _ (by decide +kernel)) ggX4_beatsUntilIn_X4_isVisitor
set_option maxRecDepth 20000 in
theorem ggX4_beatsUntilIn_X4_until : GoodIn wsX4_beatsUntilIn wsX4_until := goodIn_r _ [14, 15, 16, 17, 5, 18, 19, 20, 21, 22, 23, 24, 25, 26, 27, 28, 29, 30, 31, 32, 33, 34, 35, 36, 37, 38, 39, 40, 41, 42, 7, 43, 44, 45, 46, 47, 48, 49, 50, 51, 52, 53, 54, 55, 56, 57, 58, 59, 60, 61, 62, 63, 64, 65, 66, 67, 68, 69, 70, 71, 72, 73, 74, 75, 76, 77, 78, 79, 80, 81, 82, 83, 84, 85, 86, 87, 88, 89, 90, 91, 92, 93, 94, 95, 100, 101, 102, 103, 104, 105, 106, 107, 108] (by decide +kernel) (by decide +kernel)
set_option maxRecDepth 20000 in
theorem gX4_beatsUntilIn_X4_until : GoodIn wsX4_beatsUntilIn (wsV RX4 150 RX4 yX4_until wsX4_until) := goodIn_app (goodIn_of _ (by decide +kernel)) ggX4_beatsUntilIn_X4_until
set_option maxRecDepth 20000 in
theorem ggX4_beatsUntilIn_X4_fail : GoodIn wsX4_beatsUntilIn wsX4_fail := goodIn_r _ [99, 1, 100, 101, 102, 103, 104, 105, 106, 107, 108] (by decide +kernel) (by decide +kernel)
set_option maxRecDepth 20000 in
theorem gX4_beatsUntilIn_X4_fail : GoodIn wsX4_beatsUntilIn (wsV RX4 101 RX4 yX4_fail wsX4_fail) := goodIn_app (goodIn_of _ (by decide +kernel)) ggX4_beatsUntilIn_X4_fail
theorem dX4_beatsUntilIn_0 : decode cX4_beatsUntilIn 0 = .ok (.aload_n 0, 1) := by decide +kernel
theorem dX4_beatsUntilIn_1 : decode cX4_beatsUntilIn 1 = .ok (.iconst 0, 1) := by decide +kernel
theorem dX4_beatsUntilIn_2 : decode cX4_beatsUntilIn 2 = .ok (.putfield 25, 3) := by decide +kernel
theorem dX4_beatsUntilIn_5 : decode cX4_beatsUntilIn 5 = .ok (.aload_n 0, 1) := by decide +kernel
theorem dX4_beatsUntilIn_6 : decode cX4_beatsUntilIn 6 = .ok (.iload_n 1, 1) := by decide +kernel
theorem dX4_beatsUntilIn_7 : decode cX4_beatsUntilIn 7 = .ok (.invokevirtual 110, 3) := by decide +kernel
theorem dX4_beatsUntilIn_10 : decode cX4_beatsUntilIn 10 = .ok (.ifCond .eq 11, 3) := by decide +kernel
theorem dX4_beatsUntilIn_13 : decode cX4_beatsUntilIn 13 = .ok (.aload_n 0, 1) := by decide +kernel
theorem dX4_beatsUntilIn_14 : decode cX4_beatsUntilIn 14 = .ok (.iload_n 1, 1) := by decide +kernel
theorem dX4_beatsUntilIn_15 : decode cX4_beatsUntilIn 15 = .ok (.invokevirtual 150, 3) := by decide +kernel
theorem dX4_beatsUntilIn_18 : decode cX4_beatsUntilIn 18 = .ok (.goto 8, 3) := by decide +kernel
theorem dX4_beatsUntilIn_21 : decode cX4_beatsUntilIn 21 = .ok (.aload_n 0, 1) := by decide +kernel
theorem dX4_beatsUntilIn_22 : decode cX4_beatsUntilIn 22 = .ok (.iconst 1, 1) := by decide +kernel
theorem dX4_beatsUntilIn_23 : decode cX4_beatsUntilIn 23 = .ok (.invokevirtual 101, 3) := by decide +kernel
theorem dX4_beatsUntilIn_26 : decode cX4_beatsUntilIn 26 = .ok (.ireturn, 1) := by decide +kernel
set_option maxRecDepth 20000 in
theorem ggX4_inFarmAfter_X4_isIn : GoodIn wsX4_inFarmAfter wsX4_isIn := goodIn_r _ [5] (by decide +kernel) (by decide +kernel)
set_option maxRecDepth 20000 in
theorem gX4_inFarmAfter_X4_isIn : GoodIn wsX4_inFarmAfter (va_wsS RX4 32 yX4_isIn wsX4_isIn) := goodIn_app (goodIn_of _ (by decide +kernel)) ggX4_inFarmAfter_X4_isIn
set_option maxRecDepth 20000 in
theorem ggX4_inFarmAfter_X4_fail : GoodIn wsX4_inFarmAfter wsX4_fail := goodIn_r _ [9, 1, 96, 97, 98, 99, 100, 101, 102, 103, 104] (by decide +kernel) (by decide +kernel)
set_option maxRecDepth 20000 in
theorem gX4_inFarmAfter_X4_fail : GoodIn wsX4_inFarmAfter (wsV RX4 101 RX4 yX4_fail wsX4_fail) := goodIn_app (goodIn_of _ (by decide +kernel)) ggX4_inFarmAfter_X4_fail
set_option maxRecDepth 20000 in
theorem ggX4_inFarmAfter_X4_keep : GoodIn wsX4_inFarmAfter wsX4_keep := goodIn_r _ [13, 14, 15, 16, 17, 18, 19, 96, 97, 98, 99, 100, 101, 102, 103, 104] (by decide +kernel) (by decide +kernel)
set_option maxRecDepth 20000 in
theorem gX4_inFarmAfter_X4_keep : GoodIn wsX4_inFarmAfter (wsV RX4 141 RX4 yX4_keep wsX4_keep) := goodIn_app (goodIn_of _ (by decide +kernel)) ggX4_inFarmAfter_X4_keep
set_option maxRecDepth 20000 in
theorem ggX4_inFarmAfter_X4_beatsOn : GoodIn wsX4_inFarmAfter wsX4_beatsOn := goodIn_r _ [23, 24, 25, 26, 4, 27, 28, 29, 14, 30, 31, 32, 33, 34, 35, 36, 37, 38, 39, 40, 41, 42, 43, 44, 45, 46, 47, 48, 49, 50, 51, 52, 53, 54, 55, 56, 57, 58, 59, 60, 61, 62, 63, 64, 65, 66, 67, 68, 69, 70, 71, 72, 73, 74, 75, 76, 77, 78, 79, 80, 81, 82, 83, 84, 85, 86, 87, 96, 97, 98, 99, 100, 101, 102, 103, 104] (by decide +kernel) (by decide +kernel)
set_option maxRecDepth 20000 in
theorem gX4_inFarmAfter_X4_beatsOn : GoodIn wsX4_inFarmAfter (wsV RX4 117 RX4 yX4_beatsOn wsX4_beatsOn) := goodIn_app (goodIn_of _ (by decide +kernel)) ggX4_inFarmAfter_X4_beatsOn
set_option maxRecDepth 20000 in
theorem ggX4_inFarmAfter_X4_inside : GoodIn wsX4_inFarmAfter wsX4_inside := goodIn_r _ [91, 29, 50, 51, 52, 4, 53, 54, 55, 56, 57, 58, 14, 96, 97, 98, 99, 100, 101, 102, 103, 104] (by decide +kernel) (by decide +kernel)
set_option maxRecDepth 20000 in
theorem gX4_inFarmAfter_X4_inside : GoodIn wsX4_inFarmAfter (wsV RX4 113 RX4 yX4_inside wsX4_inside) := goodIn_app (goodIn_of _ (by decide +kernel)) ggX4_inFarmAfter_X4_inside
set_option maxRecDepth 20000 in
theorem ggX4_inFarmAfter_X4_bringBack : GoodIn wsX4_inFarmAfter wsX4_bringBack := goodIn_r _ [95, 15, 14, 16, 17, 18, 19, 96, 97, 98, 99, 100, 101, 102, 103, 104] (by decide +kernel) (by decide +kernel)
set_option maxRecDepth 20000 in
theorem gX4_inFarmAfter_X4_bringBack : GoodIn wsX4_inFarmAfter (wsV RX4 147 RX4 yX4_bringBack wsX4_bringBack) := goodIn_app (goodIn_of _ (by decide +kernel)) ggX4_inFarmAfter_X4_bringBack
theorem dX4_inFarmAfter_0 : decode cX4_inFarmAfter 0 = .ok (.aload_n 0, 1) := by decide +kernel
theorem dX4_inFarmAfter_1 : decode cX4_inFarmAfter 1 = .ok (.iconst 0, 1) := by decide +kernel
theorem dX4_inFarmAfter_2 : decode cX4_inFarmAfter 2 = .ok (.putfield 25, 3) := by decide +kernel
theorem dX4_inFarmAfter_5 : decode cX4_inFarmAfter 5 = .ok (.iload_n 1, 1) := by decide +kernel
theorem dX4_inFarmAfter_6 : decode cX4_inFarmAfter 6 = .ok (.iconst 1, 1) := by decide +kernel
theorem dX4_inFarmAfter_7 : decode cX4_inFarmAfter 7 = .ok (.bipush 60, 2) := by decide +kernel
theorem dX4_inFarmAfter_9 : decode cX4_inFarmAfter 9 = .ok (.invokestatic 32, 3) := by decide +kernel
theorem dX4_inFarmAfter_12 : decode cX4_inFarmAfter 12 = .ok (.ifCond .ne 9, 3) := by decide +kernel
theorem dX4_inFarmAfter_15 : decode cX4_inFarmAfter 15 = .ok (.aload_n 0, 1) := by decide +kernel
theorem dX4_inFarmAfter_16 : decode cX4_inFarmAfter 16 = .ok (.iconst 1, 1) := by decide +kernel
theorem dX4_inFarmAfter_17 : decode cX4_inFarmAfter 17 = .ok (.invokevirtual 101, 3) := by decide +kernel
theorem dX4_inFarmAfter_20 : decode cX4_inFarmAfter 20 = .ok (.ireturn, 1) := by decide +kernel
theorem dX4_inFarmAfter_21 : decode cX4_inFarmAfter 21 = .ok (.aload_n 0, 1) := by decide +kernel
theorem dX4_inFarmAfter_22 : decode cX4_inFarmAfter 22 = .ok (.invokevirtual 141, 3) := by decide +kernel
theorem dX4_inFarmAfter_25 : decode cX4_inFarmAfter 25 = .ok (.aload_n 0, 1) := by decide +kernel
theorem dX4_inFarmAfter_26 : decode cX4_inFarmAfter 26 = .ok (.iload_n 1, 1) := by decide +kernel
theorem dX4_inFarmAfter_27 : decode cX4_inFarmAfter 27 = .ok (.invokevirtual 117, 3) := by decide +kernel
theorem dX4_inFarmAfter_30 : decode cX4_inFarmAfter 30 = .ok (.aload_n 0, 1) := by decide +kernel
theorem dX4_inFarmAfter_31 : decode cX4_inFarmAfter 31 = .ok (.invokevirtual 113, 3) := by decide +kernel
theorem dX4_inFarmAfter_34 : decode cX4_inFarmAfter 34 = .ok (.istore_n 2, 1) := by decide +kernel
theorem dX4_inFarmAfter_35 : decode cX4_inFarmAfter 35 = .ok (.aload_n 0, 1) := by decide +kernel
theorem dX4_inFarmAfter_36 : decode cX4_inFarmAfter 36 = .ok (.invokevirtual 147, 3) := by decide +kernel
theorem dX4_inFarmAfter_39 : decode cX4_inFarmAfter 39 = .ok (.iload_n 2, 1) := by decide +kernel
theorem dX4_inFarmAfter_40 : decode cX4_inFarmAfter 40 = .ok (.ireturn, 1) := by decide +kernel
set_option maxRecDepth 20000 in
theorem ggX4_cornsWanted_X4_isVisitor : GoodIn wsX4_cornsWanted wsX4_isVisitor := goodIn_r _ [6, 7, 8, 9, 5, 10, 96, 97, 98, 99, 100, 101, 102, 103, 104] (by decide +kernel) (by decide +kernel)
set_option maxRecDepth 20000 in
theorem gX4_cornsWanted_X4_isVisitor : GoodIn wsX4_cornsWanted (wsV RX4 110 RX4 yX4_isVisitor wsX4_isVisitor) := goodIn_app (goodIn_of _ (by decide +kernel)) ggX4_cornsWanted_X4_isVisitor
set_option maxRecDepth 20000 in
theorem ggX4_cornsWanted_X4_fail : GoodIn wsX4_cornsWanted wsX4_fail := goodIn_r _ [14, 1, 96, 97, 98, 99, 100, 101, 102, 103, 104] (by decide +kernel) (by decide +kernel)
set_option maxRecDepth 20000 in
theorem gX4_cornsWanted_X4_fail : GoodIn wsX4_cornsWanted (wsV RX4 101 RX4 yX4_fail wsX4_fail) := goodIn_app (goodIn_of _ (by decide +kernel)) ggX4_cornsWanted_X4_fail
set_option maxRecDepth 20000 in
theorem ggX4_cornsWanted_X4_keep : GoodIn wsX4_cornsWanted wsX4_keep := goodIn_r _ [18, 19, 20, 21, 22, 23, 24, 96, 97, 98, 99, 100, 101, 102, 103, 104] (by decide +kernel) (by decide +kernel)
set_option maxRecDepth 20000 in
theorem gX4_cornsWanted_X4_keep : GoodIn wsX4_cornsWanted (wsV RX4 141 RX4 yX4_keep wsX4_keep) := goodIn_app (goodIn_of _ (by decide +kernel)) ggX4_cornsWanted_X4_keep
set_option maxRecDepth 20000 in
theorem ggX4_cornsWanted_X4_let : GoodIn wsX4_cornsWanted wsX4_let := goodIn_r _ [28, 19, 96, 97, 98, 99, 100, 101, 102, 103, 104] (by decide +kernel) (by decide +kernel)
set_option maxRecDepth 20000 in
theorem gX4_cornsWanted_X4_let : GoodIn wsX4_cornsWanted (wsV RX4 73 RX4 yX4_let wsX4_let) := goodIn_app (goodIn_of _ (by decide +kernel)) ggX4_cornsWanted_X4_let
set_option maxRecDepth 20000 in
theorem ggX4_cornsWanted_X4_run : GoodIn wsX4_cornsWanted wsX4_run := goodIn_r _ [32, 33, 34, 35, 5, 36, 37, 38, 39, 40, 41, 19, 42, 43, 44, 45, 46, 7, 47, 48, 49, 50, 51, 52, 53, 54, 55, 56, 57, 58, 59, 60, 61, 62, 63, 64, 65, 66, 25, 26, 27, 28, 67, 68, 69, 70, 71, 72, 73, 74, 75, 76, 77, 78, 79, 80, 81, 82, 83, 84, 85, 86, 87, 88, 89, 90, 91, 96, 97, 98, 99, 100, 101, 102, 103, 104] (by decide +kernel) (by decide +kernel)
set_option maxRecDepth 20000 in
theorem gX4_cornsWanted_X4_run : GoodIn wsX4_cornsWanted (wsV RX4 144 RX4 yX4_run wsX4_run) := goodIn_app (goodIn_of _ (by decide +kernel)) ggX4_cornsWanted_X4_run
set_option maxRecDepth 20000 in
theorem ggX4_cornsWanted_X4_bringBack : GoodIn wsX4_cornsWanted wsX4_bringBack := goodIn_r _ [95, 20, 19, 21, 22, 23, 24, 96, 97, 98, 99, 100, 101, 102, 103, 104] (by decide +kernel) (by decide +kernel)
set_option maxRecDepth 20000 in
theorem gX4_cornsWanted_X4_bringBack : GoodIn wsX4_cornsWanted (wsV RX4 147 RX4 yX4_bringBack wsX4_bringBack) := goodIn_app (goodIn_of _ (by decide +kernel)) ggX4_cornsWanted_X4_bringBack
theorem dX4_cornsWanted_0 : decode cX4_cornsWanted 0 = .ok (.aload_n 0, 1) := by decide +kernel
theorem dX4_cornsWanted_1 : decode cX4_cornsWanted 1 = .ok (.iconst 0, 1) := by decide +kernel
theorem dX4_cornsWanted_2 : decode cX4_cornsWanted 2 = .ok (.putfield 25, 3) := by decide +kernel
theorem dX4_cornsWanted_5 : decode cX4_cornsWanted 5 = .ok (.aload_n 0, 1) := by decide +kernel
theorem dX4_cornsWanted_6 : decode cX4_cornsWanted 6 = .ok (.iload_n 1, 1) := by decide +kernel
theorem dX4_cornsWanted_7 : decode cX4_cornsWanted 7 = .ok (.invokevirtual 110, 3) := by decide +kernel
theorem dX4_cornsWanted_10 : decode cX4_cornsWanted 10 = .ok (.ifCond .ne 9, 3) := by decide +kernel
theorem dX4_cornsWanted_13 : decode cX4_cornsWanted 13 = .ok (.aload_n 0, 1) := by decide +kernel
theorem dX4_cornsWanted_14 : decode cX4_cornsWanted 14 = .ok (.iconst 1, 1) := by decide +kernel
theorem dX4_cornsWanted_15 : decode cX4_cornsWanted 15 = .ok (.invokevirtual 101, 3) := by decide +kernel
theorem dX4_cornsWanted_18 : decode cX4_cornsWanted 18 = .ok (.ireturn, 1) := by decide +kernel
theorem dX4_cornsWanted_19 : decode cX4_cornsWanted 19 = .ok (.aload_n 0, 1) := by decide +kernel
theorem dX4_cornsWanted_20 : decode cX4_cornsWanted 20 = .ok (.invokevirtual 141, 3) := by decide +kernel
theorem dX4_cornsWanted_23 : decode cX4_cornsWanted 23 = .ok (.iconst (-1), 1) := by decide +kernel
theorem dX4_cornsWanted_24 : decode cX4_cornsWanted 24 = .ok (.istore_n 2, 1) := by decide +kernel
theorem dX4_cornsWanted_25 : decode cX4_cornsWanted 25 = .ok (.iconst 0, 1) := by decide +kernel
theorem dX4_cornsWanted_26 : decode cX4_cornsWanted 26 = .ok (.istore_n 3, 1) := by decide +kernel
theorem dX4_cornsWanted_27 : decode cX4_cornsWanted 27 = .ok (.iload_n 3, 1) := by decide +kernel
theorem dX4_cornsWanted_28 : decode cX4_cornsWanted 28 = .ok (.bipush 20, 2) := by decide +kernel
theorem dX4_cornsWanted_30 : decode cX4_cornsWanted 30 = .ok (.if_icmp .gt 38, 3) := by decide +kernel
theorem dX4_cornsWanted_33 : decode cX4_cornsWanted 33 = .ok (.iload_n 2, 1) := by decide +kernel
theorem dX4_cornsWanted_34 : decode cX4_cornsWanted 34 = .ok (.iconst (-1), 1) := by decide +kernel
theorem dX4_cornsWanted_35 : decode cX4_cornsWanted 35 = .ok (.if_icmp .ne 33, 3) := by decide +kernel
theorem dX4_cornsWanted_38 : decode cX4_cornsWanted 38 = .ok (.aload_n 0, 1) := by decide +kernel
theorem dX4_cornsWanted_39 : decode cX4_cornsWanted 39 = .ok (.iload_n 1, 1) := by decide +kernel
theorem dX4_cornsWanted_40 : decode cX4_cornsWanted 40 = .ok (.iconst 1, 1) := by decide +kernel
theorem dX4_cornsWanted_41 : decode cX4_cornsWanted 41 = .ok (.iload_n 3, 1) := by decide +kernel
theorem dX4_cornsWanted_42 : decode cX4_cornsWanted 42 = .ok (.invokevirtual 73, 3) := by decide +kernel
theorem dX4_cornsWanted_45 : decode cX4_cornsWanted 45 = .ok (.aload_n 0, 1) := by decide +kernel
theorem dX4_cornsWanted_46 : decode cX4_cornsWanted 46 = .ok (.iload_n 1, 1) := by decide +kernel
theorem dX4_cornsWanted_47 : decode cX4_cornsWanted 47 = .ok (.bipush 40, 2) := by decide +kernel
theorem dX4_cornsWanted_49 : decode cX4_cornsWanted 49 = .ok (.invokevirtual 144, 3) := by decide +kernel
theorem dX4_cornsWanted_52 : decode cX4_cornsWanted 52 = .ok (.iconst (-1), 1) := by decide +kernel
theorem dX4_cornsWanted_53 : decode cX4_cornsWanted 53 = .ok (.if_icmp .eq 5, 3) := by decide +kernel
theorem dX4_cornsWanted_56 : decode cX4_cornsWanted 56 = .ok (.iload_n 3, 1) := by decide +kernel
theorem dX4_cornsWanted_57 : decode cX4_cornsWanted 57 = .ok (.istore_n 2, 1) := by decide +kernel
theorem dX4_cornsWanted_58 : decode cX4_cornsWanted 58 = .ok (.aload_n 0, 1) := by decide +kernel
theorem dX4_cornsWanted_59 : decode cX4_cornsWanted 59 = .ok (.invokevirtual 147, 3) := by decide +kernel
theorem dX4_cornsWanted_62 : decode cX4_cornsWanted 62 = .ok (.iinc 3 1, 3) := by decide +kernel
theorem dX4_cornsWanted_65 : decode cX4_cornsWanted 65 = .ok (.goto (-38), 3) := by decide +kernel
theorem dX4_cornsWanted_68 : decode cX4_cornsWanted 68 = .ok (.iload_n 2, 1) := by decide +kernel
theorem dX4_cornsWanted_69 : decode cX4_cornsWanted 69 = .ok (.ireturn, 1) := by decide +kernel
set_option maxRecDepth 20000 in
theorem ggX4_toBribe_X4_isIn_ : GoodIn wsX4_toBribe wsX4_isIn_ := goodIn_r _ [5, 6, 7, 8, 9, 4, 10, 11, 26, 27, 28, 29, 30, 31, 32, 33, 34] (by decide +kernel) (by decide +kernel)
set_option maxRecDepth 20000 in
theorem gX4_toBribe_X4_isIn_ : GoodIn wsX4_toBribe (wsV RX4 67 RX4 yX4_isIn_ wsX4_isIn_) := goodIn_app (goodIn_of _ (by decide +kernel)) ggX4_toBribe_X4_isIn_
set_option maxRecDepth 20000 in
theorem ggX4_toBribe_X4_vi : GoodIn wsX4_toBribe wsX4_vi := goodIn_r _ [10, 11, 26, 27, 28, 29, 30, 31, 32, 33, 34] (by decide +kernel) (by decide +kernel)
set_option maxRecDepth 20000 in
theorem gX4_toBribe_X4_vi : GoodIn wsX4_toBribe (wsV RX4 64 RX4 yX4_vi wsX4_vi) := goodIn_app (goodIn_of _ (by decide +kernel)) ggX4_toBribe_X4_vi
set_option maxRecDepth 20000 in
theorem ggX4_toBribe_X4_angriest : GoodIn wsX4_toBribe wsX4_angriest := goodIn_r _ [15, 16, 17, 18, 19, 4, 20, 21, 22, 23, 24, 25, 11, 26, 27, 28, 29, 30, 31, 32, 33, 34] (by decide +kernel) (by decide +kernel)
set_option maxRecDepth 20000 in
theorem gX4_toBribe_X4_angriest : GoodIn wsX4_toBribe (wsV RX4 83 RX4 yX4_angriest wsX4_angriest) := goodIn_app (goodIn_of _ (by decide +kernel)) ggX4_toBribe_X4_angriest
theorem dX4_toBribe_0 : decode cX4_toBribe 0 = .ok (.aload_n 0, 1) := by decide +kernel
theorem dX4_toBribe_1 : decode cX4_toBribe 1 = .ok (.iload_n 1, 1) := by decide +kernel
theorem dX4_toBribe_2 : decode cX4_toBribe 2 = .ok (.invokevirtual 67, 3) := by decide +kernel
theorem dX4_toBribe_5 : decode cX4_toBribe 5 = .ok (.ifCond .eq 7, 3) := by decide +kernel
theorem dX4_toBribe_8 : decode cX4_toBribe 8 = .ok (.iconst (-1), 1) := by decide +kernel
theorem dX4_toBribe_9 : decode cX4_toBribe 9 = .ok (.goto 13, 3) := by decide +kernel
theorem dX4_toBribe_12 : decode cX4_toBribe 12 = .ok (.aload_n 0, 1) := by decide +kernel
theorem dX4_toBribe_13 : decode cX4_toBribe 13 = .ok (.aload_n 0, 1) := by decide +kernel
theorem dX4_toBribe_14 : decode cX4_toBribe 14 = .ok (.iload_n 1, 1) := by decide +kernel
theorem dX4_toBribe_15 : decode cX4_toBribe 15 = .ok (.iconst 0, 1) := by decide +kernel
theorem dX4_toBribe_16 : decode cX4_toBribe 16 = .ok (.invokevirtual 64, 3) := by decide +kernel
theorem dX4_toBribe_19 : decode cX4_toBribe 19 = .ok (.invokevirtual 83, 3) := by decide +kernel
theorem dX4_toBribe_22 : decode cX4_toBribe 22 = .ok (.ireturn, 1) := by decide +kernel
set_option maxRecDepth 20000 in
theorem ggX4_bestToBribe_X4_isVisitor : GoodIn wsX4_bestToBribe wsX4_isVisitor := goodIn_r _ [6, 7, 8, 9, 5, 10, 43, 44, 45, 46, 47, 48, 49, 50, 51] (by decide +kernel) (by decide +kernel)
set_option maxRecDepth 20000 in
theorem gX4_bestToBribe_X4_isVisitor : GoodIn wsX4_bestToBribe (wsV RX4 110 RX4 yX4_isVisitor wsX4_isVisitor) := goodIn_app (goodIn_of _ (by decide +kernel)) ggX4_bestToBribe_X4_isVisitor
set_option maxRecDepth 20000 in
theorem ggX4_bestToBribe_X4_toBribe : GoodIn wsX4_bestToBribe wsX4_toBribe := goodIn_r _ [14, 15, 16, 17, 5, 18, 19, 20, 21, 22, 23, 24, 25, 26, 27, 28, 29, 30, 31, 32, 33, 34, 35, 36, 37, 38, 43, 44, 45, 46, 47, 48, 49, 50, 51] (by decide +kernel) (by decide +kernel)
set_option maxRecDepth 20000 in
theorem gX4_bestToBribe_X4_toBribe : GoodIn wsX4_bestToBribe (wsV RX4 153 RX4 yX4_toBribe wsX4_toBribe) := goodIn_app (goodIn_of _ (by decide +kernel)) ggX4_bestToBribe_X4_toBribe
set_option maxRecDepth 20000 in
theorem ggX4_bestToBribe_X4_fail : GoodIn wsX4_bestToBribe wsX4_fail := goodIn_r _ [42, 1, 43, 44, 45, 46, 47, 48, 49, 50, 51] (by decide +kernel) (by decide +kernel)
set_option maxRecDepth 20000 in
theorem gX4_bestToBribe_X4_fail : GoodIn wsX4_bestToBribe (wsV RX4 101 RX4 yX4_fail wsX4_fail) := goodIn_app (goodIn_of _ (by decide +kernel)) ggX4_bestToBribe_X4_fail
theorem dX4_bestToBribe_0 : decode cX4_bestToBribe 0 = .ok (.aload_n 0, 1) := by decide +kernel
theorem dX4_bestToBribe_1 : decode cX4_bestToBribe 1 = .ok (.iconst 0, 1) := by decide +kernel
theorem dX4_bestToBribe_2 : decode cX4_bestToBribe 2 = .ok (.putfield 25, 3) := by decide +kernel
theorem dX4_bestToBribe_5 : decode cX4_bestToBribe 5 = .ok (.aload_n 0, 1) := by decide +kernel
theorem dX4_bestToBribe_6 : decode cX4_bestToBribe 6 = .ok (.iload_n 1, 1) := by decide +kernel
theorem dX4_bestToBribe_7 : decode cX4_bestToBribe 7 = .ok (.invokevirtual 110, 3) := by decide +kernel
theorem dX4_bestToBribe_10 : decode cX4_bestToBribe 10 = .ok (.ifCond .eq 11, 3) := by decide +kernel
theorem dX4_bestToBribe_13 : decode cX4_bestToBribe 13 = .ok (.aload_n 0, 1) := by decide +kernel
theorem dX4_bestToBribe_14 : decode cX4_bestToBribe 14 = .ok (.iload_n 1, 1) := by decide +kernel
theorem dX4_bestToBribe_15 : decode cX4_bestToBribe 15 = .ok (.invokevirtual 153, 3) := by decide +kernel
theorem dX4_bestToBribe_18 : decode cX4_bestToBribe 18 = .ok (.goto 8, 3) := by decide +kernel
theorem dX4_bestToBribe_21 : decode cX4_bestToBribe 21 = .ok (.aload_n 0, 1) := by decide +kernel
theorem dX4_bestToBribe_22 : decode cX4_bestToBribe 22 = .ok (.iconst 1, 1) := by decide +kernel
theorem dX4_bestToBribe_23 : decode cX4_bestToBribe 23 = .ok (.invokevirtual 101, 3) := by decide +kernel
theorem dX4_bestToBribe_26 : decode cX4_bestToBribe 26 = .ok (.ireturn, 1) := by decide +kernel
set_option maxRecDepth 20000 in
theorem ggX4_calmWanted_X4_isIn_ : GoodIn wsX4_calmWanted wsX4_isIn_ := goodIn_r _ [8, 9, 10, 11, 12, 7, 13, 14, 41, 42, 43, 44, 45, 46, 47, 48, 49] (by decide +kernel) (by decide +kernel)
set_option maxRecDepth 20000 in
theorem gX4_calmWanted_X4_isIn_ : GoodIn wsX4_calmWanted (wsV RX4 67 RX4 yX4_isIn_ wsX4_isIn_) := goodIn_app (goodIn_of _ (by decide +kernel)) ggX4_calmWanted_X4_isIn_
set_option maxRecDepth 20000 in
theorem ggX4_calmWanted_X4_vi : GoodIn wsX4_calmWanted wsX4_vi := goodIn_r _ [13, 14, 41, 42, 43, 44, 45, 46, 47, 48, 49] (by decide +kernel) (by decide +kernel)
set_option maxRecDepth 20000 in
theorem gX4_calmWanted_X4_vi : GoodIn wsX4_calmWanted (wsV RX4 64 RX4 yX4_vi wsX4_vi) := goodIn_app (goodIn_of _ (by decide +kernel)) ggX4_calmWanted_X4_vi
set_option maxRecDepth 20000 in
theorem ggX4_calmWanted_X4_hissNow : GoodIn wsX4_calmWanted wsX4_hissNow := goodIn_r _ [18, 3, 4, 5, 6, 7, 8, 9, 10, 11, 12, 13, 14, 19, 20, 21, 22, 2, 23, 24, 25, 26, 27, 28, 29, 30, 31, 32, 33, 34, 35, 36, 37, 38, 39, 40, 41, 42, 43, 44, 45, 46, 47, 48, 49] (by decide +kernel) (by decide +kernel)
set_option maxRecDepth 20000 in
theorem gX4_calmWanted_X4_hissNow : GoodIn wsX4_calmWanted (wsV RX4 135 RX4 yX4_hissNow wsX4_hissNow) := goodIn_app (goodIn_of _ (by decide +kernel)) ggX4_calmWanted_X4_hissNow
set_option maxRecDepth 20000 in
theorem ggX4_calmWanted_X4_isAwake : GoodIn wsX4_calmWanted wsX4_isAwake := goodIn_r _ [26, 27, 28, 29, 30, 7, 31, 14, 41, 42, 43, 44, 45, 46, 47, 48, 49] (by decide +kernel) (by decide +kernel)
set_option maxRecDepth 20000 in
theorem gX4_calmWanted_X4_isAwake : GoodIn wsX4_calmWanted (wsV RX4 57 RX4 yX4_isAwake wsX4_isAwake) := goodIn_app (goodIn_of _ (by decide +kernel)) ggX4_calmWanted_X4_isAwake
set_option maxRecDepth 20000 in
theorem ggX4_calmWanted_X4_go : GoodIn wsX4_calmWanted wsX4_go := goodIn_r _ [31, 14, 41, 42, 43, 44, 45, 46, 47, 48, 49] (by decide +kernel) (by decide +kernel)
set_option maxRecDepth 20000 in
theorem gX4_calmWanted_X4_go : GoodIn wsX4_calmWanted (wsV RX4 48 RX4 yX4_go wsX4_go) := goodIn_app (goodIn_of _ (by decide +kernel)) ggX4_calmWanted_X4_go
set_option maxRecDepth 20000 in
theorem ggX4_calmWanted_X4_more : GoodIn wsX4_calmWanted wsX4_more := goodIn_r _ [35, 36, 37, 38, 39, 40, 41, 42, 43, 44, 45, 46, 47, 48, 49] (by decide +kernel) (by decide +kernel)
set_option maxRecDepth 20000 in
theorem gX4_calmWanted_X4_more : GoodIn wsX4_calmWanted (wsV RX4 61 RX4 yX4_more wsX4_more) := goodIn_app (goodIn_of _ (by decide +kernel)) ggX4_calmWanted_X4_more
theorem dX4_calmWanted_0 : decode cX4_calmWanted 0 = .ok (.aload_n 0, 1) := by decide +kernel
theorem dX4_calmWanted_1 : decode cX4_calmWanted 1 = .ok (.iload_n 1, 1) := by decide +kernel
theorem dX4_calmWanted_2 : decode cX4_calmWanted 2 = .ok (.invokevirtual 67, 3) := by decide +kernel
theorem dX4_calmWanted_5 : decode cX4_calmWanted 5 = .ok (.ifCond .eq 5, 3) := by decide +kernel
theorem dX4_calmWanted_8 : decode cX4_calmWanted 8 = .ok (.iconst 0, 1) := by decide +kernel
theorem dX4_calmWanted_9 : decode cX4_calmWanted 9 = .ok (.ireturn, 1) := by decide +kernel
theorem dX4_calmWanted_10 : decode cX4_calmWanted 10 = .ok (.aload_n 0, 1) := by decide +kernel
theorem dX4_calmWanted_11 : decode cX4_calmWanted 11 = .ok (.iload_n 1, 1) := by decide +kernel
theorem dX4_calmWanted_12 : decode cX4_calmWanted 12 = .ok (.iconst 0, 1) := by decide +kernel
theorem dX4_calmWanted_13 : decode cX4_calmWanted 13 = .ok (.invokevirtual 64, 3) := by decide +kernel
theorem dX4_calmWanted_16 : decode cX4_calmWanted 16 = .ok (.istore_n 2, 1) := by decide +kernel
theorem dX4_calmWanted_17 : decode cX4_calmWanted 17 = .ok (.aload_n 0, 1) := by decide +kernel
theorem dX4_calmWanted_18 : decode cX4_calmWanted 18 = .ok (.iload_n 1, 1) := by decide +kernel
theorem dX4_calmWanted_19 : decode cX4_calmWanted 19 = .ok (.invokevirtual 135, 3) := by decide +kernel
theorem dX4_calmWanted_22 : decode cX4_calmWanted 22 = .ok (.istore_n 3, 1) := by decide +kernel
theorem dX4_calmWanted_23 : decode cX4_calmWanted 23 = .ok (.iconst 0, 1) := by decide +kernel
theorem dX4_calmWanted_24 : decode cX4_calmWanted 24 = .ok (.istore 4, 2) := by decide +kernel
theorem dX4_calmWanted_26 : decode cX4_calmWanted 26 = .ok (.bipush 10, 2) := by decide +kernel
theorem dX4_calmWanted_28 : decode cX4_calmWanted 28 = .ok (.newarray .int, 2) := by decide +kernel
theorem dX4_calmWanted_30 : decode cX4_calmWanted 30 = .ok (.astore 5, 2) := by decide +kernel
theorem dX4_calmWanted_32 : decode cX4_calmWanted 32 = .ok (.iconst 0, 1) := by decide +kernel
theorem dX4_calmWanted_33 : decode cX4_calmWanted 33 = .ok (.istore 6, 2) := by decide +kernel
theorem dX4_calmWanted_35 : decode cX4_calmWanted 35 = .ok (.iload 6, 2) := by decide +kernel
theorem dX4_calmWanted_37 : decode cX4_calmWanted 37 = .ok (.aload_n 0, 1) := by decide +kernel
theorem dX4_calmWanted_38 : decode cX4_calmWanted 38 = .ok (.getfield 36, 3) := by decide +kernel
theorem dX4_calmWanted_41 : decode cX4_calmWanted 41 = .ok (.if_icmp .ge 33, 3) := by decide +kernel
theorem dX4_calmWanted_44 : decode cX4_calmWanted 44 = .ok (.aload_n 0, 1) := by decide +kernel
theorem dX4_calmWanted_45 : decode cX4_calmWanted 45 = .ok (.iload 6, 2) := by decide +kernel
theorem dX4_calmWanted_47 : decode cX4_calmWanted 47 = .ok (.iload_n 2, 1) := by decide +kernel
theorem dX4_calmWanted_48 : decode cX4_calmWanted 48 = .ok (.invokevirtual 57, 3) := by decide +kernel
theorem dX4_calmWanted_51 : decode cX4_calmWanted 51 = .ok (.ifCond .eq 17, 3) := by decide +kernel
theorem dX4_calmWanted_54 : decode cX4_calmWanted 54 = .ok (.aload 5, 2) := by decide +kernel
theorem dX4_calmWanted_56 : decode cX4_calmWanted 56 = .ok (.aload_n 0, 1) := by decide +kernel
theorem dX4_calmWanted_57 : decode cX4_calmWanted 57 = .ok (.iload 6, 2) := by decide +kernel
theorem dX4_calmWanted_59 : decode cX4_calmWanted 59 = .ok (.iconst 0, 1) := by decide +kernel
theorem dX4_calmWanted_60 : decode cX4_calmWanted 60 = .ok (.invokevirtual 48, 3) := by decide +kernel
theorem dX4_calmWanted_63 : decode cX4_calmWanted 63 = .ok (.dup2, 1) := by decide +kernel
theorem dX4_calmWanted_64 : decode cX4_calmWanted 64 = .ok (.iaload, 1) := by decide +kernel
theorem dX4_calmWanted_65 : decode cX4_calmWanted 65 = .ok (.iconst 1, 1) := by decide +kernel
theorem dX4_calmWanted_66 : decode cX4_calmWanted 66 = .ok (.iadd, 1) := by decide +kernel
theorem dX4_calmWanted_67 : decode cX4_calmWanted 67 = .ok (.iastore, 1) := by decide +kernel
theorem dX4_calmWanted_68 : decode cX4_calmWanted 68 = .ok (.iinc 6 1, 3) := by decide +kernel
theorem dX4_calmWanted_71 : decode cX4_calmWanted 71 = .ok (.goto (-36), 3) := by decide +kernel
theorem dX4_calmWanted_74 : decode cX4_calmWanted 74 = .ok (.bipush 9, 2) := by decide +kernel
theorem dX4_calmWanted_76 : decode cX4_calmWanted 76 = .ok (.istore 6, 2) := by decide +kernel
theorem dX4_calmWanted_78 : decode cX4_calmWanted 78 = .ok (.iload 6, 2) := by decide +kernel
theorem dX4_calmWanted_80 : decode cX4_calmWanted 80 = .ok (.ifCond .le 58, 3) := by decide +kernel
theorem dX4_calmWanted_83 : decode cX4_calmWanted 83 = .ok (.iconst 0, 1) := by decide +kernel
theorem dX4_calmWanted_84 : decode cX4_calmWanted 84 = .ok (.istore 7, 2) := by decide +kernel
theorem dX4_calmWanted_86 : decode cX4_calmWanted 86 = .ok (.iload 7, 2) := by decide +kernel
theorem dX4_calmWanted_88 : decode cX4_calmWanted 88 = .ok (.aload 5, 2) := by decide +kernel
theorem dX4_calmWanted_90 : decode cX4_calmWanted 90 = .ok (.iload 6, 2) := by decide +kernel
theorem dX4_calmWanted_92 : decode cX4_calmWanted 92 = .ok (.iaload, 1) := by decide +kernel
theorem dX4_calmWanted_93 : decode cX4_calmWanted 93 = .ok (.if_icmp .ge 39, 3) := by decide +kernel
theorem dX4_calmWanted_96 : decode cX4_calmWanted 96 = .ok (.iload_n 3, 1) := by decide +kernel
theorem dX4_calmWanted_97 : decode cX4_calmWanted 97 = .ok (.aload_n 0, 1) := by decide +kernel
theorem dX4_calmWanted_98 : decode cX4_calmWanted 98 = .ok (.iload_n 1, 1) := by decide +kernel
theorem dX4_calmWanted_99 : decode cX4_calmWanted 99 = .ok (.iconst 2, 1) := by decide +kernel
theorem dX4_calmWanted_100 : decode cX4_calmWanted 100 = .ok (.invokevirtual 64, 3) := by decide +kernel
theorem dX4_calmWanted_103 : decode cX4_calmWanted 103 = .ok (.if_icmp .le 29, 3) := by decide +kernel
theorem dX4_calmWanted_106 : decode cX4_calmWanted 106 = .ok (.iload_n 3, 1) := by decide +kernel
theorem dX4_calmWanted_107 : decode cX4_calmWanted 107 = .ok (.iload 6, 2) := by decide +kernel
theorem dX4_calmWanted_109 : decode cX4_calmWanted 109 = .ok (.aload_n 0, 1) := by decide +kernel
theorem dX4_calmWanted_110 : decode cX4_calmWanted 110 = .ok (.iload_n 2, 1) := by decide +kernel
theorem dX4_calmWanted_111 : decode cX4_calmWanted 111 = .ok (.aload_n 0, 1) := by decide +kernel
theorem dX4_calmWanted_112 : decode cX4_calmWanted 112 = .ok (.getfield 16, 3) := by decide +kernel
theorem dX4_calmWanted_115 : decode cX4_calmWanted 115 = .ok (.iload_n 1, 1) := by decide +kernel
theorem dX4_calmWanted_116 : decode cX4_calmWanted 116 = .ok (.iaload, 1) := by decide +kernel
theorem dX4_calmWanted_117 : decode cX4_calmWanted 117 = .ok (.invokevirtual 61, 3) := by decide +kernel
theorem dX4_calmWanted_120 : decode cX4_calmWanted 120 = .ok (.iadd, 1) := by decide +kernel
theorem dX4_calmWanted_121 : decode cX4_calmWanted 121 = .ok (.isub, 1) := by decide +kernel
theorem dX4_calmWanted_122 : decode cX4_calmWanted 122 = .ok (.istore_n 3, 1) := by decide +kernel
theorem dX4_calmWanted_123 : decode cX4_calmWanted 123 = .ok (.iinc 4 1, 3) := by decide +kernel
theorem dX4_calmWanted_126 : decode cX4_calmWanted 126 = .ok (.iinc 7 1, 3) := by decide +kernel
theorem dX4_calmWanted_129 : decode cX4_calmWanted 129 = .ok (.goto (-43), 3) := by decide +kernel
theorem dX4_calmWanted_132 : decode cX4_calmWanted 132 = .ok (.iinc 6 (-1), 3) := by decide +kernel
theorem dX4_calmWanted_135 : decode cX4_calmWanted 135 = .ok (.goto (-57), 3) := by decide +kernel
theorem dX4_calmWanted_138 : decode cX4_calmWanted 138 = .ok (.iload 4, 2) := by decide +kernel
theorem dX4_calmWanted_140 : decode cX4_calmWanted 140 = .ok (.ireturn, 1) := by decide +kernel
set_option maxRecDepth 20000 in
theorem ggX4_bribesWanted_X4_isVisitor : GoodIn wsX4_bribesWanted wsX4_isVisitor := goodIn_r _ [6, 7, 8, 9, 5, 10, 58, 59, 60, 61, 62, 63, 64, 65, 66] (by decide +kernel) (by decide +kernel)
set_option maxRecDepth 20000 in
theorem gX4_bribesWanted_X4_isVisitor : GoodIn wsX4_bribesWanted (wsV RX4 110 RX4 yX4_isVisitor wsX4_isVisitor) := goodIn_app (goodIn_of _ (by decide +kernel)) ggX4_bribesWanted_X4_isVisitor
set_option maxRecDepth 20000 in
theorem ggX4_bribesWanted_X4_calmWanted : GoodIn wsX4_bribesWanted wsX4_calmWanted := goodIn_r _ [14, 15, 16, 17, 18, 19, 20, 5, 21, 22, 23, 24, 25, 26, 27, 28, 29, 30, 31, 32, 33, 34, 35, 36, 37, 38, 39, 40, 41, 42, 43, 44, 45, 46, 47, 48, 49, 50, 51, 52, 53, 58, 59, 60, 61, 62, 63, 64, 65, 66] (by decide +kernel) (by decide +kernel)
set_option maxRecDepth 20000 in
theorem gX4_bribesWanted_X4_calmWanted : GoodIn wsX4_bribesWanted (wsV RX4 156 RX4 yX4_calmWanted wsX4_calmWanted) := goodIn_app (goodIn_of _ (by decide +kernel)) ggX4_bribesWanted_X4_calmWanted
set_option maxRecDepth 20000 in
theorem ggX4_bribesWanted_X4_fail : GoodIn wsX4_bribesWanted wsX4_fail := goodIn_r _ [57, 1, 58, 59, 60, 61, 62, 63, 64, 65, 66] (by decide +kernel) (by decide +kernel)
set_option maxRecDepth 20000 in
theorem gX4_bribesWanted_X4_fail : GoodIn wsX4_bribesWanted (wsV RX4 101 RX4 yX4_fail wsX4_fail) := goodIn_app (goodIn_of _ (by decide +kernel)) ggX4_bribesWanted_X4_fail
theorem dX4_bribesWanted_0 : decode cX4_bribesWanted 0 = .ok (.aload_n 0, 1) := by decide +kernel
theorem dX4_bribesWanted_1 : decode cX4_bribesWanted 1 = .ok (.iconst 0, 1) := by decide +kernel
theorem dX4_bribesWanted_2 : decode cX4_bribesWanted 2 = .ok (.putfield 25, 3) := by decide +kernel
theorem dX4_bribesWanted_5 : decode cX4_bribesWanted 5 = .ok (.aload_n 0, 1) := by decide +kernel
theorem dX4_bribesWanted_6 : decode cX4_bribesWanted 6 = .ok (.iload_n 1, 1) := by decide +kernel
theorem dX4_bribesWanted_7 : decode cX4_bribesWanted 7 = .ok (.invokevirtual 110, 3) := by decide +kernel
theorem dX4_bribesWanted_10 : decode cX4_bribesWanted 10 = .ok (.ifCond .eq 11, 3) := by decide +kernel
theorem dX4_bribesWanted_13 : decode cX4_bribesWanted 13 = .ok (.aload_n 0, 1) := by decide +kernel
theorem dX4_bribesWanted_14 : decode cX4_bribesWanted 14 = .ok (.iload_n 1, 1) := by decide +kernel
theorem dX4_bribesWanted_15 : decode cX4_bribesWanted 15 = .ok (.invokevirtual 156, 3) := by decide +kernel
theorem dX4_bribesWanted_18 : decode cX4_bribesWanted 18 = .ok (.goto 8, 3) := by decide +kernel
theorem dX4_bribesWanted_21 : decode cX4_bribesWanted 21 = .ok (.aload_n 0, 1) := by decide +kernel
theorem dX4_bribesWanted_22 : decode cX4_bribesWanted 22 = .ok (.iconst 1, 1) := by decide +kernel
theorem dX4_bribesWanted_23 : decode cX4_bribesWanted 23 = .ok (.invokevirtual 101, 3) := by decide +kernel
theorem dX4_bribesWanted_26 : decode cX4_bribesWanted 26 = .ok (.ireturn, 1) := by decide +kernel
set_option maxRecDepth 20000 in
theorem ggX4_ranked_X4_isIn_ : GoodIn wsX4_ranked wsX4_isIn_ := goodIn_r _ [5, 6, 7, 8, 9, 4, 10, 11, 35, 36, 37, 38, 39, 40, 41, 42, 43] (by decide +kernel) (by decide +kernel)
set_option maxRecDepth 20000 in
theorem gX4_ranked_X4_isIn_ : GoodIn wsX4_ranked (wsV RX4 67 RX4 yX4_isIn_ wsX4_isIn_) := goodIn_app (goodIn_of _ (by decide +kernel)) ggX4_ranked_X4_isIn_
set_option maxRecDepth 20000 in
theorem ggX4_ranked_X4_vi : GoodIn wsX4_ranked wsX4_vi := goodIn_r _ [10, 11, 35, 36, 37, 38, 39, 40, 41, 42, 43] (by decide +kernel) (by decide +kernel)
set_option maxRecDepth 20000 in
theorem gX4_ranked_X4_vi : GoodIn wsX4_ranked (wsV RX4 64 RX4 yX4_vi wsX4_vi) := goodIn_app (goodIn_of _ (by decide +kernel)) ggX4_ranked_X4_vi
set_option maxRecDepth 20000 in
theorem ggX4_ranked_X4_hiss : GoodIn wsX4_ranked wsX4_hiss := goodIn_r _ [15, 16, 17, 18, 19, 4, 20, 21, 22, 23, 24, 25, 11, 26, 27, 28, 29, 30, 31, 32, 33, 34, 35, 36, 37, 38, 39, 40, 41, 42, 43] (by decide +kernel) (by decide +kernel)
set_option maxRecDepth 20000 in
theorem gX4_ranked_X4_hiss : GoodIn wsX4_ranked (wsV RX4 70 RX4 yX4_hiss wsX4_hiss) := goodIn_app (goodIn_of _ (by decide +kernel)) ggX4_ranked_X4_hiss
theorem dX4_ranked_0 : decode cX4_ranked 0 = .ok (.aload_n 0, 1) := by decide +kernel
theorem dX4_ranked_1 : decode cX4_ranked 1 = .ok (.iload_n 1, 1) := by decide +kernel
theorem dX4_ranked_2 : decode cX4_ranked 2 = .ok (.invokevirtual 67, 3) := by decide +kernel
theorem dX4_ranked_5 : decode cX4_ranked 5 = .ok (.ifCond .eq 5, 3) := by decide +kernel
theorem dX4_ranked_8 : decode cX4_ranked 8 = .ok (.iconst 0, 1) := by decide +kernel
theorem dX4_ranked_9 : decode cX4_ranked 9 = .ok (.ireturn, 1) := by decide +kernel
theorem dX4_ranked_10 : decode cX4_ranked 10 = .ok (.iconst 0, 1) := by decide +kernel
theorem dX4_ranked_11 : decode cX4_ranked 11 = .ok (.istore_n 2, 1) := by decide +kernel
theorem dX4_ranked_12 : decode cX4_ranked 12 = .ok (.iload_n 2, 1) := by decide +kernel
theorem dX4_ranked_13 : decode cX4_ranked 13 = .ok (.bipush 9, 2) := by decide +kernel
theorem dX4_ranked_15 : decode cX4_ranked 15 = .ok (.if_icmp .gt 31, 3) := by decide +kernel
theorem dX4_ranked_18 : decode cX4_ranked 18 = .ok (.aload_n 0, 1) := by decide +kernel
theorem dX4_ranked_19 : decode cX4_ranked 19 = .ok (.aload_n 0, 1) := by decide +kernel
theorem dX4_ranked_20 : decode cX4_ranked 20 = .ok (.iload_n 1, 1) := by decide +kernel
theorem dX4_ranked_21 : decode cX4_ranked 21 = .ok (.iconst 0, 1) := by decide +kernel
theorem dX4_ranked_22 : decode cX4_ranked 22 = .ok (.invokevirtual 64, 3) := by decide +kernel
theorem dX4_ranked_25 : decode cX4_ranked 25 = .ok (.iload_n 2, 1) := by decide +kernel
theorem dX4_ranked_26 : decode cX4_ranked 26 = .ok (.invokevirtual 70, 3) := by decide +kernel
theorem dX4_ranked_29 : decode cX4_ranked 29 = .ok (.aload_n 0, 1) := by decide +kernel
theorem dX4_ranked_30 : decode cX4_ranked 30 = .ok (.iload_n 1, 1) := by decide +kernel
theorem dX4_ranked_31 : decode cX4_ranked 31 = .ok (.iconst 2, 1) := by decide +kernel
theorem dX4_ranked_32 : decode cX4_ranked 32 = .ok (.invokevirtual 64, 3) := by decide +kernel
theorem dX4_ranked_35 : decode cX4_ranked 35 = .ok (.if_icmp .gt 5, 3) := by decide +kernel
theorem dX4_ranked_38 : decode cX4_ranked 38 = .ok (.iload_n 2, 1) := by decide +kernel
theorem dX4_ranked_39 : decode cX4_ranked 39 = .ok (.ireturn, 1) := by decide +kernel
theorem dX4_ranked_40 : decode cX4_ranked 40 = .ok (.iinc 2 1, 3) := by decide +kernel
theorem dX4_ranked_43 : decode cX4_ranked 43 = .ok (.goto (-31), 3) := by decide +kernel
theorem dX4_ranked_46 : decode cX4_ranked 46 = .ok (.iconst (-1), 1) := by decide +kernel
theorem dX4_ranked_47 : decode cX4_ranked 47 = .ok (.ireturn, 1) := by decide +kernel
set_option maxRecDepth 20000 in
theorem ggX4_rankWanted_X4_isVisitor : GoodIn wsX4_rankWanted wsX4_isVisitor := goodIn_r _ [6, 7, 8, 9, 5, 10, 52, 53, 54, 55, 56, 57, 58, 59, 60] (by decide +kernel) (by decide +kernel)
set_option maxRecDepth 20000 in
theorem gX4_rankWanted_X4_isVisitor : GoodIn wsX4_rankWanted (wsV RX4 110 RX4 yX4_isVisitor wsX4_isVisitor) := goodIn_app (goodIn_of _ (by decide +kernel)) ggX4_rankWanted_X4_isVisitor
set_option maxRecDepth 20000 in
theorem ggX4_rankWanted_X4_ranked : GoodIn wsX4_rankWanted wsX4_ranked := goodIn_r _ [14, 15, 16, 17, 5, 18, 19, 20, 21, 22, 23, 24, 25, 26, 27, 28, 29, 30, 31, 32, 33, 34, 35, 36, 37, 38, 39, 40, 41, 42, 43, 44, 45, 46, 47, 52, 53, 54, 55, 56, 57, 58, 59, 60] (by decide +kernel) (by decide +kernel)
set_option maxRecDepth 20000 in
theorem gX4_rankWanted_X4_ranked : GoodIn wsX4_rankWanted (wsV RX4 159 RX4 yX4_ranked wsX4_ranked) := goodIn_app (goodIn_of _ (by decide +kernel)) ggX4_rankWanted_X4_ranked
set_option maxRecDepth 20000 in
theorem ggX4_rankWanted_X4_fail : GoodIn wsX4_rankWanted wsX4_fail := goodIn_r _ [51, 1, 52, 53, 54, 55, 56, 57, 58, 59, 60] (by decide +kernel) (by decide +kernel)
set_option maxRecDepth 20000 in
theorem gX4_rankWanted_X4_fail : GoodIn wsX4_rankWanted (wsV RX4 101 RX4 yX4_fail wsX4_fail) := goodIn_app (goodIn_of _ (by decide +kernel)) ggX4_rankWanted_X4_fail
theorem dX4_rankWanted_0 : decode cX4_rankWanted 0 = .ok (.aload_n 0, 1) := by decide +kernel
theorem dX4_rankWanted_1 : decode cX4_rankWanted 1 = .ok (.iconst 0, 1) := by decide +kernel
theorem dX4_rankWanted_2 : decode cX4_rankWanted 2 = .ok (.putfield 25, 3) := by decide +kernel
theorem dX4_rankWanted_5 : decode cX4_rankWanted 5 = .ok (.aload_n 0, 1) := by decide +kernel
theorem dX4_rankWanted_6 : decode cX4_rankWanted 6 = .ok (.iload_n 1, 1) := by decide +kernel
theorem dX4_rankWanted_7 : decode cX4_rankWanted 7 = .ok (.invokevirtual 110, 3) := by decide +kernel
theorem dX4_rankWanted_10 : decode cX4_rankWanted 10 = .ok (.ifCond .eq 11, 3) := by decide +kernel
theorem dX4_rankWanted_13 : decode cX4_rankWanted 13 = .ok (.aload_n 0, 1) := by decide +kernel
theorem dX4_rankWanted_14 : decode cX4_rankWanted 14 = .ok (.iload_n 1, 1) := by decide +kernel
theorem dX4_rankWanted_15 : decode cX4_rankWanted 15 = .ok (.invokevirtual 159, 3) := by decide +kernel
theorem dX4_rankWanted_18 : decode cX4_rankWanted 18 = .ok (.goto 8, 3) := by decide +kernel
theorem dX4_rankWanted_21 : decode cX4_rankWanted 21 = .ok (.aload_n 0, 1) := by decide +kernel
theorem dX4_rankWanted_22 : decode cX4_rankWanted 22 = .ok (.iconst 1, 1) := by decide +kernel
theorem dX4_rankWanted_23 : decode cX4_rankWanted 23 = .ok (.invokevirtual 101, 3) := by decide +kernel
theorem dX4_rankWanted_26 : decode cX4_rankWanted 26 = .ok (.ireturn, 1) := by decide +kernel
set_option maxRecDepth 20000 in
theorem ggX4_firstBar_X4_isIn : GoodIn wsX4_firstBar wsX4_isIn := goodIn_r _ [6] (by decide +kernel) (by decide +kernel)
set_option maxRecDepth 20000 in
theorem gX4_firstBar_X4_isIn : GoodIn wsX4_firstBar (va_wsS RX4 32 yX4_isIn wsX4_isIn) := goodIn_app (goodIn_of _ (by decide +kernel)) ggX4_firstBar_X4_isIn
set_option maxRecDepth 20000 in
theorem ggX4_firstBar_X4_fail : GoodIn wsX4_firstBar wsX4_fail := goodIn_r _ [10, 1, 35, 36, 37, 38, 39, 40, 41, 42, 43] (by decide +kernel) (by decide +kernel)
set_option maxRecDepth 20000 in
theorem gX4_firstBar_X4_fail : GoodIn wsX4_firstBar (wsV RX4 101 RX4 yX4_fail wsX4_fail) := goodIn_app (goodIn_of _ (by decide +kernel)) ggX4_firstBar_X4_fail
set_option maxRecDepth 20000 in
theorem ggX4_firstBar_X4_hiss : GoodIn wsX4_firstBar wsX4_hiss := goodIn_r _ [14, 15, 16, 17, 18, 5, 19, 20, 21, 22, 23, 24, 25, 26, 27, 28, 29, 30, 31, 32, 33, 34, 35, 36, 37, 38, 39, 40, 41, 42, 43] (by decide +kernel) (by decide +kernel)
set_option maxRecDepth 20000 in
theorem gX4_firstBar_X4_hiss : GoodIn wsX4_firstBar (wsV RX4 70 RX4 yX4_hiss wsX4_hiss) := goodIn_app (goodIn_of _ (by decide +kernel)) ggX4_firstBar_X4_hiss
theorem dX4_firstBar_0 : decode cX4_firstBar 0 = .ok (.aload_n 0, 1) := by decide +kernel
theorem dX4_firstBar_1 : decode cX4_firstBar 1 = .ok (.iconst 0, 1) := by decide +kernel
theorem dX4_firstBar_2 : decode cX4_firstBar 2 = .ok (.putfield 25, 3) := by decide +kernel
theorem dX4_firstBar_5 : decode cX4_firstBar 5 = .ok (.iload_n 1, 1) := by decide +kernel
theorem dX4_firstBar_6 : decode cX4_firstBar 6 = .ok (.iconst 0, 1) := by decide +kernel
theorem dX4_firstBar_7 : decode cX4_firstBar 7 = .ok (.bipush 9, 2) := by decide +kernel
theorem dX4_firstBar_9 : decode cX4_firstBar 9 = .ok (.invokestatic 32, 3) := by decide +kernel
theorem dX4_firstBar_12 : decode cX4_firstBar 12 = .ok (.ifCond .eq 13, 3) := by decide +kernel
theorem dX4_firstBar_15 : decode cX4_firstBar 15 = .ok (.iload_n 2, 1) := by decide +kernel
theorem dX4_firstBar_16 : decode cX4_firstBar 16 = .ok (.iconst 0, 1) := by decide +kernel
theorem dX4_firstBar_17 : decode cX4_firstBar 17 = .ok (.bipush 20, 2) := by decide +kernel
theorem dX4_firstBar_19 : decode cX4_firstBar 19 = .ok (.invokestatic 32, 3) := by decide +kernel
theorem dX4_firstBar_22 : decode cX4_firstBar 22 = .ok (.ifCond .ne 9, 3) := by decide +kernel
theorem dX4_firstBar_25 : decode cX4_firstBar 25 = .ok (.aload_n 0, 1) := by decide +kernel
theorem dX4_firstBar_26 : decode cX4_firstBar 26 = .ok (.iconst 1, 1) := by decide +kernel
theorem dX4_firstBar_27 : decode cX4_firstBar 27 = .ok (.invokevirtual 101, 3) := by decide +kernel
theorem dX4_firstBar_30 : decode cX4_firstBar 30 = .ok (.ireturn, 1) := by decide +kernel
theorem dX4_firstBar_31 : decode cX4_firstBar 31 = .ok (.iconst 0, 1) := by decide +kernel
theorem dX4_firstBar_32 : decode cX4_firstBar 32 = .ok (.istore_n 3, 1) := by decide +kernel
theorem dX4_firstBar_33 : decode cX4_firstBar 33 = .ok (.iload_n 3, 1) := by decide +kernel
theorem dX4_firstBar_34 : decode cX4_firstBar 34 = .ok (.aload_n 0, 1) := by decide +kernel
theorem dX4_firstBar_35 : decode cX4_firstBar 35 = .ok (.getfield 29, 3) := by decide +kernel
theorem dX4_firstBar_38 : decode cX4_firstBar 38 = .ok (.if_icmp .ge 21, 3) := by decide +kernel
theorem dX4_firstBar_41 : decode cX4_firstBar 41 = .ok (.aload_n 0, 1) := by decide +kernel
theorem dX4_firstBar_42 : decode cX4_firstBar 42 = .ok (.iload_n 3, 1) := by decide +kernel
theorem dX4_firstBar_43 : decode cX4_firstBar 43 = .ok (.iload_n 1, 1) := by decide +kernel
theorem dX4_firstBar_44 : decode cX4_firstBar 44 = .ok (.invokevirtual 70, 3) := by decide +kernel
theorem dX4_firstBar_47 : decode cX4_firstBar 47 = .ok (.iload_n 2, 1) := by decide +kernel
theorem dX4_firstBar_48 : decode cX4_firstBar 48 = .ok (.if_icmp .le 5, 3) := by decide +kernel
theorem dX4_firstBar_51 : decode cX4_firstBar 51 = .ok (.iload_n 3, 1) := by decide +kernel
theorem dX4_firstBar_52 : decode cX4_firstBar 52 = .ok (.ireturn, 1) := by decide +kernel
theorem dX4_firstBar_53 : decode cX4_firstBar 53 = .ok (.iinc 3 1, 3) := by decide +kernel
theorem dX4_firstBar_56 : decode cX4_firstBar 56 = .ok (.goto (-23), 3) := by decide +kernel
theorem dX4_firstBar_59 : decode cX4_firstBar 59 = .ok (.iconst (-1), 1) := by decide +kernel
theorem dX4_firstBar_60 : decode cX4_firstBar 60 = .ok (.ireturn, 1) := by decide +kernel
set_option maxRecDepth 20000 in
theorem ggX4_meanTemper_X4_go : GoodIn wsX4_meanTemper wsX4_go := goodIn_r _ [7, 8, 9, 10, 11, 12, 13, 14, 15, 16, 17] (by decide +kernel) (by decide +kernel)
set_option maxRecDepth 20000 in
theorem gX4_meanTemper_X4_go : GoodIn wsX4_meanTemper (wsV RX4 48 RX4 yX4_go wsX4_go) := goodIn_app (goodIn_of _ (by decide +kernel)) ggX4_meanTemper_X4_go
theorem dX4_meanTemper_0 : decode cX4_meanTemper 0 = .ok (.aload_n 0, 1) := by decide +kernel
theorem dX4_meanTemper_1 : decode cX4_meanTemper 1 = .ok (.iconst 0, 1) := by decide +kernel
theorem dX4_meanTemper_2 : decode cX4_meanTemper 2 = .ok (.putfield 25, 3) := by decide +kernel
theorem dX4_meanTemper_5 : decode cX4_meanTemper 5 = .ok (.iconst 0, 1) := by decide +kernel
theorem dX4_meanTemper_6 : decode cX4_meanTemper 6 = .ok (.istore_n 1, 1) := by decide +kernel
theorem dX4_meanTemper_7 : decode cX4_meanTemper 7 = .ok (.iconst 0, 1) := by decide +kernel
theorem dX4_meanTemper_8 : decode cX4_meanTemper 8 = .ok (.istore_n 2, 1) := by decide +kernel
theorem dX4_meanTemper_9 : decode cX4_meanTemper 9 = .ok (.iload_n 2, 1) := by decide +kernel
theorem dX4_meanTemper_10 : decode cX4_meanTemper 10 = .ok (.aload_n 0, 1) := by decide +kernel
theorem dX4_meanTemper_11 : decode cX4_meanTemper 11 = .ok (.getfield 36, 3) := by decide +kernel
theorem dX4_meanTemper_14 : decode cX4_meanTemper 14 = .ok (.if_icmp .ge 18, 3) := by decide +kernel
theorem dX4_meanTemper_17 : decode cX4_meanTemper 17 = .ok (.iload_n 1, 1) := by decide +kernel
theorem dX4_meanTemper_18 : decode cX4_meanTemper 18 = .ok (.aload_n 0, 1) := by decide +kernel
theorem dX4_meanTemper_19 : decode cX4_meanTemper 19 = .ok (.iload_n 2, 1) := by decide +kernel
theorem dX4_meanTemper_20 : decode cX4_meanTemper 20 = .ok (.iconst 0, 1) := by decide +kernel
theorem dX4_meanTemper_21 : decode cX4_meanTemper 21 = .ok (.invokevirtual 48, 3) := by decide +kernel
theorem dX4_meanTemper_24 : decode cX4_meanTemper 24 = .ok (.iadd, 1) := by decide +kernel
theorem dX4_meanTemper_25 : decode cX4_meanTemper 25 = .ok (.istore_n 1, 1) := by decide +kernel
theorem dX4_meanTemper_26 : decode cX4_meanTemper 26 = .ok (.iinc 2 1, 3) := by decide +kernel
theorem dX4_meanTemper_29 : decode cX4_meanTemper 29 = .ok (.goto (-20), 3) := by decide +kernel
theorem dX4_meanTemper_32 : decode cX4_meanTemper 32 = .ok (.aload_n 0, 1) := by decide +kernel
theorem dX4_meanTemper_33 : decode cX4_meanTemper 33 = .ok (.getfield 36, 3) := by decide +kernel
theorem dX4_meanTemper_36 : decode cX4_meanTemper 36 = .ok (.ifCond .ne 7, 3) := by decide +kernel
theorem dX4_meanTemper_39 : decode cX4_meanTemper 39 = .ok (.dconst 0, 1) := by decide +kernel
theorem dX4_meanTemper_40 : decode cX4_meanTemper 40 = .ok (.goto 11, 3) := by decide +kernel
theorem dX4_meanTemper_43 : decode cX4_meanTemper 43 = .ok (.iload_n 1, 1) := by decide +kernel
theorem dX4_meanTemper_44 : decode cX4_meanTemper 44 = .ok (.i2d, 1) := by decide +kernel
theorem dX4_meanTemper_45 : decode cX4_meanTemper 45 = .ok (.aload_n 0, 1) := by decide +kernel
theorem dX4_meanTemper_46 : decode cX4_meanTemper 46 = .ok (.getfield 36, 3) := by decide +kernel
theorem dX4_meanTemper_49 : decode cX4_meanTemper 49 = .ok (.i2d, 1) := by decide +kernel
theorem dX4_meanTemper_50 : decode cX4_meanTemper 50 = .ok (.ddiv, 1) := by decide +kernel
theorem dX4_meanTemper_51 : decode cX4_meanTemper 51 = .ok (.dreturn, 1) := by decide +kernel
set_option maxRecDepth 20000 in
theorem ggX4_digest_X4_inside : GoodIn wsX4_digest wsX4_inside := goodIn_r _ [15, 6, 16, 17, 18, 14, 19, 4, 20, 21, 22, 23, 3, 124, 125, 126, 127, 128, 129, 130, 131, 132] (by decide +kernel) (by decide +kernel)
set_option maxRecDepth 20000 in
theorem gX4_digest_X4_inside : GoodIn wsX4_digest (wsV RX4 113 RX4 yX4_inside wsX4_inside) := goodIn_app (goodIn_of _ (by decide +kernel)) ggX4_digest_X4_inside
set_option maxRecDepth 20000 in
theorem ggX4_digest_X4_loudest : GoodIn wsX4_digest wsX4_loudest := goodIn_r _ [27, 4, 28, 29, 30, 14, 31, 5, 32, 33, 34, 35, 10, 36, 37, 38, 39, 3, 40, 41, 42, 43, 9, 44, 45, 46, 47, 124, 125, 126, 127, 128, 129, 130, 131, 132] (by decide +kernel) (by decide +kernel)
set_option maxRecDepth 20000 in
theorem gX4_digest_X4_loudest : GoodIn wsX4_digest (wsV RX4 126 RX4 yX4_loudest wsX4_loudest) := goodIn_app (goodIn_of _ (by decide +kernel)) ggX4_digest_X4_loudest
set_option maxRecDepth 20000 in
theorem ggX4_digest_X4_awake : GoodIn wsX4_digest wsX4_awake := goodIn_r _ [51, 5, 32, 33, 34, 14, 35, 10, 36, 37, 38, 39, 3, 124, 125, 126, 127, 128, 129, 130, 131, 132] (by decide +kernel) (by decide +kernel)
set_option maxRecDepth 20000 in
theorem gX4_digest_X4_awake : GoodIn wsX4_digest (wsV RX4 123 RX4 yX4_awake wsX4_awake) := goodIn_app (goodIn_of _ (by decide +kernel)) ggX4_digest_X4_awake
set_option maxRecDepth 20000 in
theorem ggX4_digest_X4_go : GoodIn wsX4_digest wsX4_go := goodIn_r _ [39, 3, 124, 125, 126, 127, 128, 129, 130, 131, 132] (by decide +kernel) (by decide +kernel)
set_option maxRecDepth 20000 in
theorem gX4_digest_X4_go : GoodIn wsX4_digest (wsV RX4 48 RX4 yX4_go wsX4_go) := goodIn_app (goodIn_of _ (by decide +kernel)) ggX4_digest_X4_go
set_option maxRecDepth 20000 in
theorem ggX4_digest_X4_vi : GoodIn wsX4_digest wsX4_vi := goodIn_r _ [23, 3, 124, 125, 126, 127, 128, 129, 130, 131, 132] (by decide +kernel) (by decide +kernel)
set_option maxRecDepth 20000 in
theorem gX4_digest_X4_vi : GoodIn wsX4_digest (wsV RX4 64 RX4 yX4_vi wsX4_vi) := goodIn_app (goodIn_of _ (by decide +kernel)) ggX4_digest_X4_vi
set_option maxRecDepth 20000 in
theorem ggX4_digest_X4_hissNow : GoodIn wsX4_digest wsX4_hissNow := goodIn_r _ [55, 56, 16, 17, 18, 14, 19, 4, 20, 21, 22, 23, 3, 28, 29, 30, 31, 5, 32, 33, 34, 35, 10, 36, 37, 38, 39, 40, 41, 42, 43, 9, 44, 45, 46, 47, 124, 125, 126, 127, 128, 129, 130, 131, 132] (by decide +kernel) (by decide +kernel)
set_option maxRecDepth 20000 in
theorem gX4_digest_X4_hissNow : GoodIn wsX4_digest (wsV RX4 135 RX4 yX4_hissNow wsX4_hissNow) := goodIn_app (goodIn_of _ (by decide +kernel)) ggX4_digest_X4_hissNow
set_option maxRecDepth 20000 in
theorem ggX4_digest_X4_dare : GoodIn wsX4_digest wsX4_dare := goodIn_r _ [60, 16, 17, 18, 14, 19, 4, 20, 21, 22, 23, 3, 52, 53, 54, 55, 56, 28, 29, 30, 31, 5, 32, 33, 34, 35, 10, 36, 37, 38, 39, 40, 41, 42, 43, 9, 44, 45, 46, 47, 124, 125, 126, 127, 128, 129, 130, 131, 132] (by decide +kernel) (by decide +kernel)
set_option maxRecDepth 20000 in
theorem gX4_digest_X4_dare : GoodIn wsX4_digest (wsV RX4 138 RX4 yX4_dare wsX4_dare) := goodIn_app (goodIn_of _ (by decide +kernel)) ggX4_digest_X4_dare
set_option maxRecDepth 20000 in
theorem ggX4_digest_X4_until : GoodIn wsX4_digest wsX4_until := goodIn_r _ [64, 65, 66, 67, 14, 68, 3, 69, 70, 71, 72, 73, 74, 75, 76, 77, 16, 17, 18, 19, 4, 20, 21, 22, 23, 78, 79, 80, 81, 5, 6, 36, 37, 38, 39, 82, 83, 84, 85, 86, 87, 88, 89, 56, 90, 91, 46, 92, 44, 45, 47, 93, 94, 95, 96, 28, 29, 30, 31, 32, 33, 34, 35, 10, 40, 41, 42, 43, 9, 97, 98, 99, 100, 101, 102, 103, 104, 105, 106, 107, 108, 109, 110, 111, 124, 125, 126, 127, 128, 129, 130, 131, 132] (by decide +kernel) (by decide +kernel)
set_option maxRecDepth 20000 in
theorem gX4_digest_X4_until : GoodIn wsX4_digest (wsV RX4 150 RX4 yX4_until wsX4_until) := goodIn_app (goodIn_of _ (by decide +kernel)) ggX4_digest_X4_until
set_option maxRecDepth 20000 in
theorem ggX4_digest_X4_toBribe : GoodIn wsX4_digest wsX4_toBribe := goodIn_r _ [115, 16, 17, 18, 14, 19, 4, 20, 21, 22, 23, 3, 97, 98, 99, 100, 5, 32, 33, 34, 35, 10, 36, 37, 38, 39, 124, 125, 126, 127, 128, 129, 130, 131, 132] (by decide +kernel) (by decide +kernel)
set_option maxRecDepth 20000 in
theorem gX4_digest_X4_toBribe : GoodIn wsX4_digest (wsV RX4 153 RX4 yX4_toBribe wsX4_toBribe) := goodIn_app (goodIn_of _ (by decide +kernel)) ggX4_digest_X4_toBribe
set_option maxRecDepth 20000 in
theorem ggX4_digest_X4_calmWanted : GoodIn wsX4_digest wsX4_calmWanted := goodIn_r _ [119, 2, 5, 56, 16, 17, 18, 14, 19, 4, 20, 21, 22, 23, 3, 52, 53, 54, 55, 28, 29, 30, 31, 32, 33, 34, 35, 10, 36, 37, 38, 39, 40, 41, 42, 43, 9, 44, 45, 46, 47, 124, 125, 126, 127, 128, 129, 130, 131, 132] (by decide +kernel) (by decide +kernel)
set_option maxRecDepth 20000 in
theorem gX4_digest_X4_calmWanted : GoodIn wsX4_digest (wsV RX4 156 RX4 yX4_calmWanted wsX4_calmWanted) := goodIn_app (goodIn_of _ (by decide +kernel)) ggX4_digest_X4_calmWanted
set_option maxRecDepth 20000 in
theorem ggX4_digest_X4_ranked : GoodIn wsX4_digest wsX4_ranked := goodIn_r _ [123, 16, 17, 18, 14, 19, 4, 20, 21, 22, 23, 3, 28, 29, 30, 31, 5, 32, 33, 34, 35, 10, 36, 37, 38, 39, 40, 41, 42, 43, 9, 44, 45, 46, 47, 124, 125, 126, 127, 128, 129, 130, 131, 132] (by decide +kernel) (by decide +kernel)
set_option maxRecDepth 20000 in
theorem gX4_digest_X4_ranked : GoodIn wsX4_digest (wsV RX4 159 RX4 yX4_ranked wsX4_ranked) := goodIn_app (goodIn_of _ (by decide +kernel)) ggX4_digest_X4_ranked
theorem dX4_digest_0 : decode cX4_digest 0 = .ok (.aload_n 0, 1) := by decide +kernel
theorem dX4_digest_1 : decode cX4_digest 1 = .ok (.iconst 0, 1) := by decide +kernel
theorem dX4_digest_2 : decode cX4_digest 2 = .ok (.putfield 25, 3) := by decide +kernel
theorem dX4_digest_5 : decode cX4_digest 5 = .ok (.bipush 8, 2) := by decide +kernel
theorem dX4_digest_7 : decode cX4_digest 7 = .ok (.newarray .int, 2) := by decide +kernel
theorem dX4_digest_9 : decode cX4_digest 9 = .ok (.dup, 1) := by decide +kernel
theorem dX4_digest_10 : decode cX4_digest 10 = .ok (.iconst 0, 1) := by decide +kernel
theorem dX4_digest_11 : decode cX4_digest 11 = .ok (.aload_n 0, 1) := by decide +kernel
theorem dX4_digest_12 : decode cX4_digest 12 = .ok (.getfield 19, 3) := by decide +kernel
theorem dX4_digest_15 : decode cX4_digest 15 = .ok (.iconst 0, 1) := by decide +kernel
theorem dX4_digest_16 : decode cX4_digest 16 = .ok (.iaload, 1) := by decide +kernel
theorem dX4_digest_17 : decode cX4_digest 17 = .ok (.iastore, 1) := by decide +kernel
theorem dX4_digest_18 : decode cX4_digest 18 = .ok (.dup, 1) := by decide +kernel
theorem dX4_digest_19 : decode cX4_digest 19 = .ok (.iconst 1, 1) := by decide +kernel
theorem dX4_digest_20 : decode cX4_digest 20 = .ok (.aload_n 0, 1) := by decide +kernel
theorem dX4_digest_21 : decode cX4_digest 21 = .ok (.getfield 29, 3) := by decide +kernel
theorem dX4_digest_24 : decode cX4_digest 24 = .ok (.iastore, 1) := by decide +kernel
theorem dX4_digest_25 : decode cX4_digest 25 = .ok (.dup, 1) := by decide +kernel
theorem dX4_digest_26 : decode cX4_digest 26 = .ok (.iconst 2, 1) := by decide +kernel
theorem dX4_digest_27 : decode cX4_digest 27 = .ok (.aload_n 0, 1) := by decide +kernel
theorem dX4_digest_28 : decode cX4_digest 28 = .ok (.getfield 36, 3) := by decide +kernel
theorem dX4_digest_31 : decode cX4_digest 31 = .ok (.iastore, 1) := by decide +kernel
theorem dX4_digest_32 : decode cX4_digest 32 = .ok (.dup, 1) := by decide +kernel
theorem dX4_digest_33 : decode cX4_digest 33 = .ok (.iconst 3, 1) := by decide +kernel
theorem dX4_digest_34 : decode cX4_digest 34 = .ok (.aload_n 0, 1) := by decide +kernel
theorem dX4_digest_35 : decode cX4_digest 35 = .ok (.getfield 39, 3) := by decide +kernel
theorem dX4_digest_38 : decode cX4_digest 38 = .ok (.iastore, 1) := by decide +kernel
theorem dX4_digest_39 : decode cX4_digest 39 = .ok (.dup, 1) := by decide +kernel
theorem dX4_digest_40 : decode cX4_digest 40 = .ok (.iconst 4, 1) := by decide +kernel
theorem dX4_digest_41 : decode cX4_digest 41 = .ok (.aload_n 0, 1) := by decide +kernel
theorem dX4_digest_42 : decode cX4_digest 42 = .ok (.invokevirtual 113, 3) := by decide +kernel
theorem dX4_digest_45 : decode cX4_digest 45 = .ok (.iastore, 1) := by decide +kernel
theorem dX4_digest_46 : decode cX4_digest 46 = .ok (.dup, 1) := by decide +kernel
theorem dX4_digest_47 : decode cX4_digest 47 = .ok (.iconst 5, 1) := by decide +kernel
theorem dX4_digest_48 : decode cX4_digest 48 = .ok (.aload_n 0, 1) := by decide +kernel
theorem dX4_digest_49 : decode cX4_digest 49 = .ok (.getfield 19, 3) := by decide +kernel
theorem dX4_digest_52 : decode cX4_digest 52 = .ok (.iconst 1, 1) := by decide +kernel
theorem dX4_digest_53 : decode cX4_digest 53 = .ok (.iaload, 1) := by decide +kernel
theorem dX4_digest_54 : decode cX4_digest 54 = .ok (.iastore, 1) := by decide +kernel
theorem dX4_digest_55 : decode cX4_digest 55 = .ok (.dup, 1) := by decide +kernel
theorem dX4_digest_56 : decode cX4_digest 56 = .ok (.bipush 6, 2) := by decide +kernel
theorem dX4_digest_58 : decode cX4_digest 58 = .ok (.aload_n 0, 1) := by decide +kernel
theorem dX4_digest_59 : decode cX4_digest 59 = .ok (.getfield 19, 3) := by decide +kernel
theorem dX4_digest_62 : decode cX4_digest 62 = .ok (.iconst 2, 1) := by decide +kernel
theorem dX4_digest_63 : decode cX4_digest 63 = .ok (.iaload, 1) := by decide +kernel
theorem dX4_digest_64 : decode cX4_digest 64 = .ok (.iastore, 1) := by decide +kernel
theorem dX4_digest_65 : decode cX4_digest 65 = .ok (.dup, 1) := by decide +kernel
theorem dX4_digest_66 : decode cX4_digest 66 = .ok (.bipush 7, 2) := by decide +kernel
theorem dX4_digest_68 : decode cX4_digest 68 = .ok (.aload_n 0, 1) := by decide +kernel
theorem dX4_digest_69 : decode cX4_digest 69 = .ok (.invokevirtual 126, 3) := by decide +kernel
theorem dX4_digest_72 : decode cX4_digest 72 = .ok (.iastore, 1) := by decide +kernel
theorem dX4_digest_73 : decode cX4_digest 73 = .ok (.astore_n 1, 1) := by decide +kernel
theorem dX4_digest_74 : decode cX4_digest 74 = .ok (.ldc2_w 162, 3) := by decide +kernel
theorem dX4_digest_77 : decode cX4_digest 77 = .ok (.lstore_n 2, 1) := by decide +kernel
theorem dX4_digest_78 : decode cX4_digest 78 = .ok (.aload_n 1, 1) := by decide +kernel
theorem dX4_digest_79 : decode cX4_digest 79 = .ok (.astore 4, 2) := by decide +kernel
theorem dX4_digest_81 : decode cX4_digest 81 = .ok (.aload 4, 2) := by decide +kernel
theorem dX4_digest_83 : decode cX4_digest 83 = .ok (.arraylength, 1) := by decide +kernel
theorem dX4_digest_84 : decode cX4_digest 84 = .ok (.istore 5, 2) := by decide +kernel
theorem dX4_digest_86 : decode cX4_digest 86 = .ok (.iconst 0, 1) := by decide +kernel
theorem dX4_digest_87 : decode cX4_digest 87 = .ok (.istore 6, 2) := by decide +kernel
theorem dX4_digest_89 : decode cX4_digest 89 = .ok (.iload 6, 2) := by decide +kernel
theorem dX4_digest_91 : decode cX4_digest 91 = .ok (.iload 5, 2) := by decide +kernel
theorem dX4_digest_93 : decode cX4_digest 93 = .ok (.if_icmp .ge 26, 3) := by decide +kernel
theorem dX4_digest_96 : decode cX4_digest 96 = .ok (.aload 4, 2) := by decide +kernel
theorem dX4_digest_98 : decode cX4_digest 98 = .ok (.iload 6, 2) := by decide +kernel
theorem dX4_digest_100 : decode cX4_digest 100 = .ok (.iaload, 1) := by decide +kernel
theorem dX4_digest_101 : decode cX4_digest 101 = .ok (.istore 7, 2) := by decide +kernel
theorem dX4_digest_103 : decode cX4_digest 103 = .ok (.lload_n 2, 1) := by decide +kernel
theorem dX4_digest_104 : decode cX4_digest 104 = .ok (.ldc2_w 164, 3) := by decide +kernel
theorem dX4_digest_107 : decode cX4_digest 107 = .ok (.lmul, 1) := by decide +kernel
theorem dX4_digest_108 : decode cX4_digest 108 = .ok (.iload 7, 2) := by decide +kernel
theorem dX4_digest_110 : decode cX4_digest 110 = .ok (.i2l, 1) := by decide +kernel
theorem dX4_digest_111 : decode cX4_digest 111 = .ok (.ladd, 1) := by decide +kernel
theorem dX4_digest_112 : decode cX4_digest 112 = .ok (.lstore_n 2, 1) := by decide +kernel
theorem dX4_digest_113 : decode cX4_digest 113 = .ok (.iinc 6 1, 3) := by decide +kernel
theorem dX4_digest_116 : decode cX4_digest 116 = .ok (.goto (-27), 3) := by decide +kernel
theorem dX4_digest_119 : decode cX4_digest 119 = .ok (.iconst 0, 1) := by decide +kernel
theorem dX4_digest_120 : decode cX4_digest 120 = .ok (.istore 4, 2) := by decide +kernel
theorem dX4_digest_122 : decode cX4_digest 122 = .ok (.iload 4, 2) := by decide +kernel
theorem dX4_digest_124 : decode cX4_digest 124 = .ok (.aload_n 0, 1) := by decide +kernel
theorem dX4_digest_125 : decode cX4_digest 125 = .ok (.getfield 29, 3) := by decide +kernel
theorem dX4_digest_128 : decode cX4_digest 128 = .ok (.if_icmp .ge 38, 3) := by decide +kernel
theorem dX4_digest_131 : decode cX4_digest 131 = .ok (.lload_n 2, 1) := by decide +kernel
theorem dX4_digest_132 : decode cX4_digest 132 = .ok (.ldc2_w 164, 3) := by decide +kernel
theorem dX4_digest_135 : decode cX4_digest 135 = .ok (.lmul, 1) := by decide +kernel
theorem dX4_digest_136 : decode cX4_digest 136 = .ok (.aload_n 0, 1) := by decide +kernel
theorem dX4_digest_137 : decode cX4_digest 137 = .ok (.getfield 9, 3) := by decide +kernel
theorem dX4_digest_140 : decode cX4_digest 140 = .ok (.iload 4, 2) := by decide +kernel
theorem dX4_digest_142 : decode cX4_digest 142 = .ok (.iaload, 1) := by decide +kernel
theorem dX4_digest_143 : decode cX4_digest 143 = .ok (.i2l, 1) := by decide +kernel
theorem dX4_digest_144 : decode cX4_digest 144 = .ok (.ladd, 1) := by decide +kernel
theorem dX4_digest_145 : decode cX4_digest 145 = .ok (.lstore_n 2, 1) := by decide +kernel
theorem dX4_digest_146 : decode cX4_digest 146 = .ok (.lload_n 2, 1) := by decide +kernel
theorem dX4_digest_147 : decode cX4_digest 147 = .ok (.ldc2_w 164, 3) := by decide +kernel
theorem dX4_digest_150 : decode cX4_digest 150 = .ok (.lmul, 1) := by decide +kernel
theorem dX4_digest_151 : decode cX4_digest 151 = .ok (.aload_n 0, 1) := by decide +kernel
theorem dX4_digest_152 : decode cX4_digest 152 = .ok (.iload 4, 2) := by decide +kernel
theorem dX4_digest_154 : decode cX4_digest 154 = .ok (.invokevirtual 123, 3) := by decide +kernel
theorem dX4_digest_157 : decode cX4_digest 157 = .ok (.i2l, 1) := by decide +kernel
theorem dX4_digest_158 : decode cX4_digest 158 = .ok (.ladd, 1) := by decide +kernel
theorem dX4_digest_159 : decode cX4_digest 159 = .ok (.lstore_n 2, 1) := by decide +kernel
theorem dX4_digest_160 : decode cX4_digest 160 = .ok (.iinc 4 1, 3) := by decide +kernel
theorem dX4_digest_163 : decode cX4_digest 163 = .ok (.goto (-41), 3) := by decide +kernel
theorem dX4_digest_166 : decode cX4_digest 166 = .ok (.iconst 0, 1) := by decide +kernel
theorem dX4_digest_167 : decode cX4_digest 167 = .ok (.istore 4, 2) := by decide +kernel
theorem dX4_digest_169 : decode cX4_digest 169 = .ok (.iload 4, 2) := by decide +kernel
theorem dX4_digest_171 : decode cX4_digest 171 = .ok (.aload_n 0, 1) := by decide +kernel
theorem dX4_digest_172 : decode cX4_digest 172 = .ok (.getfield 36, 3) := by decide +kernel
theorem dX4_digest_175 : decode cX4_digest 175 = .ok (.if_icmp .ge 96, 3) := by decide +kernel
theorem dX4_digest_178 : decode cX4_digest 178 = .ok (.iconst 4, 1) := by decide +kernel
theorem dX4_digest_179 : decode cX4_digest 179 = .ok (.newarray .int, 2) := by decide +kernel
theorem dX4_digest_181 : decode cX4_digest 181 = .ok (.dup, 1) := by decide +kernel
theorem dX4_digest_182 : decode cX4_digest 182 = .ok (.iconst 0, 1) := by decide +kernel
theorem dX4_digest_183 : decode cX4_digest 183 = .ok (.aload_n 0, 1) := by decide +kernel
theorem dX4_digest_184 : decode cX4_digest 184 = .ok (.getfield 13, 3) := by decide +kernel
theorem dX4_digest_187 : decode cX4_digest 187 = .ok (.iload 4, 2) := by decide +kernel
theorem dX4_digest_189 : decode cX4_digest 189 = .ok (.iaload, 1) := by decide +kernel
theorem dX4_digest_190 : decode cX4_digest 190 = .ok (.iastore, 1) := by decide +kernel
theorem dX4_digest_191 : decode cX4_digest 191 = .ok (.dup, 1) := by decide +kernel
theorem dX4_digest_192 : decode cX4_digest 192 = .ok (.iconst 1, 1) := by decide +kernel
theorem dX4_digest_193 : decode cX4_digest 193 = .ok (.aload_n 0, 1) := by decide +kernel
theorem dX4_digest_194 : decode cX4_digest 194 = .ok (.iload 4, 2) := by decide +kernel
theorem dX4_digest_196 : decode cX4_digest 196 = .ok (.iconst 0, 1) := by decide +kernel
theorem dX4_digest_197 : decode cX4_digest 197 = .ok (.invokevirtual 48, 3) := by decide +kernel
theorem dX4_digest_200 : decode cX4_digest 200 = .ok (.iastore, 1) := by decide +kernel
theorem dX4_digest_201 : decode cX4_digest 201 = .ok (.dup, 1) := by decide +kernel
theorem dX4_digest_202 : decode cX4_digest 202 = .ok (.iconst 2, 1) := by decide +kernel
theorem dX4_digest_203 : decode cX4_digest 203 = .ok (.aload_n 0, 1) := by decide +kernel
theorem dX4_digest_204 : decode cX4_digest 204 = .ok (.iload 4, 2) := by decide +kernel
theorem dX4_digest_206 : decode cX4_digest 206 = .ok (.iconst 1, 1) := by decide +kernel
theorem dX4_digest_207 : decode cX4_digest 207 = .ok (.invokevirtual 48, 3) := by decide +kernel
theorem dX4_digest_210 : decode cX4_digest 210 = .ok (.iastore, 1) := by decide +kernel
theorem dX4_digest_211 : decode cX4_digest 211 = .ok (.dup, 1) := by decide +kernel
theorem dX4_digest_212 : decode cX4_digest 212 = .ok (.iconst 3, 1) := by decide +kernel
theorem dX4_digest_213 : decode cX4_digest 213 = .ok (.aload_n 0, 1) := by decide +kernel
theorem dX4_digest_214 : decode cX4_digest 214 = .ok (.iload 4, 2) := by decide +kernel
theorem dX4_digest_216 : decode cX4_digest 216 = .ok (.iconst 2, 1) := by decide +kernel
theorem dX4_digest_217 : decode cX4_digest 217 = .ok (.invokevirtual 48, 3) := by decide +kernel
theorem dX4_digest_220 : decode cX4_digest 220 = .ok (.iastore, 1) := by decide +kernel
theorem dX4_digest_221 : decode cX4_digest 221 = .ok (.astore 5, 2) := by decide +kernel
theorem dX4_digest_223 : decode cX4_digest 223 = .ok (.aload 5, 2) := by decide +kernel
theorem dX4_digest_225 : decode cX4_digest 225 = .ok (.astore 6, 2) := by decide +kernel
theorem dX4_digest_227 : decode cX4_digest 227 = .ok (.aload 6, 2) := by decide +kernel
theorem dX4_digest_229 : decode cX4_digest 229 = .ok (.arraylength, 1) := by decide +kernel
theorem dX4_digest_230 : decode cX4_digest 230 = .ok (.istore 7, 2) := by decide +kernel
theorem dX4_digest_232 : decode cX4_digest 232 = .ok (.iconst 0, 1) := by decide +kernel
theorem dX4_digest_233 : decode cX4_digest 233 = .ok (.istore 8, 2) := by decide +kernel
theorem dX4_digest_235 : decode cX4_digest 235 = .ok (.iload 8, 2) := by decide +kernel
theorem dX4_digest_237 : decode cX4_digest 237 = .ok (.iload 7, 2) := by decide +kernel
theorem dX4_digest_239 : decode cX4_digest 239 = .ok (.if_icmp .ge 26, 3) := by decide +kernel
theorem dX4_digest_242 : decode cX4_digest 242 = .ok (.aload 6, 2) := by decide +kernel
theorem dX4_digest_244 : decode cX4_digest 244 = .ok (.iload 8, 2) := by decide +kernel
theorem dX4_digest_246 : decode cX4_digest 246 = .ok (.iaload, 1) := by decide +kernel
theorem dX4_digest_247 : decode cX4_digest 247 = .ok (.istore 9, 2) := by decide +kernel
theorem dX4_digest_249 : decode cX4_digest 249 = .ok (.lload_n 2, 1) := by decide +kernel
theorem dX4_digest_250 : decode cX4_digest 250 = .ok (.ldc2_w 164, 3) := by decide +kernel
theorem dX4_digest_253 : decode cX4_digest 253 = .ok (.lmul, 1) := by decide +kernel
theorem dX4_digest_254 : decode cX4_digest 254 = .ok (.iload 9, 2) := by decide +kernel
theorem dX4_digest_256 : decode cX4_digest 256 = .ok (.i2l, 1) := by decide +kernel
theorem dX4_digest_257 : decode cX4_digest 257 = .ok (.ladd, 1) := by decide +kernel
theorem dX4_digest_258 : decode cX4_digest 258 = .ok (.lstore_n 2, 1) := by decide +kernel
theorem dX4_digest_259 : decode cX4_digest 259 = .ok (.iinc 8 1, 3) := by decide +kernel
theorem dX4_digest_262 : decode cX4_digest 262 = .ok (.goto (-27), 3) := by decide +kernel
theorem dX4_digest_265 : decode cX4_digest 265 = .ok (.iinc 4 1, 3) := by decide +kernel
theorem dX4_digest_268 : decode cX4_digest 268 = .ok (.goto (-99), 3) := by decide +kernel
theorem dX4_digest_271 : decode cX4_digest 271 = .ok (.iconst 0, 1) := by decide +kernel
theorem dX4_digest_272 : decode cX4_digest 272 = .ok (.istore 4, 2) := by decide +kernel
theorem dX4_digest_274 : decode cX4_digest 274 = .ok (.iload 4, 2) := by decide +kernel
theorem dX4_digest_276 : decode cX4_digest 276 = .ok (.aload_n 0, 1) := by decide +kernel
theorem dX4_digest_277 : decode cX4_digest 277 = .ok (.getfield 39, 3) := by decide +kernel
theorem dX4_digest_280 : decode cX4_digest 280 = .ok (.if_icmp .ge 163, 3) := by decide +kernel
theorem dX4_digest_283 : decode cX4_digest 283 = .ok (.bipush 10, 2) := by decide +kernel
theorem dX4_digest_285 : decode cX4_digest 285 = .ok (.newarray .int, 2) := by decide +kernel
theorem dX4_digest_287 : decode cX4_digest 287 = .ok (.dup, 1) := by decide +kernel
theorem dX4_digest_288 : decode cX4_digest 288 = .ok (.iconst 0, 1) := by decide +kernel
theorem dX4_digest_289 : decode cX4_digest 289 = .ok (.aload_n 0, 1) := by decide +kernel
theorem dX4_digest_290 : decode cX4_digest 290 = .ok (.iload 4, 2) := by decide +kernel
theorem dX4_digest_292 : decode cX4_digest 292 = .ok (.iconst 0, 1) := by decide +kernel
theorem dX4_digest_293 : decode cX4_digest 293 = .ok (.invokevirtual 64, 3) := by decide +kernel
theorem dX4_digest_296 : decode cX4_digest 296 = .ok (.iastore, 1) := by decide +kernel
theorem dX4_digest_297 : decode cX4_digest 297 = .ok (.dup, 1) := by decide +kernel
theorem dX4_digest_298 : decode cX4_digest 298 = .ok (.iconst 1, 1) := by decide +kernel
theorem dX4_digest_299 : decode cX4_digest 299 = .ok (.aload_n 0, 1) := by decide +kernel
theorem dX4_digest_300 : decode cX4_digest 300 = .ok (.iload 4, 2) := by decide +kernel
theorem dX4_digest_302 : decode cX4_digest 302 = .ok (.iconst 1, 1) := by decide +kernel
theorem dX4_digest_303 : decode cX4_digest 303 = .ok (.invokevirtual 64, 3) := by decide +kernel
theorem dX4_digest_306 : decode cX4_digest 306 = .ok (.iastore, 1) := by decide +kernel
theorem dX4_digest_307 : decode cX4_digest 307 = .ok (.dup, 1) := by decide +kernel
theorem dX4_digest_308 : decode cX4_digest 308 = .ok (.iconst 2, 1) := by decide +kernel
theorem dX4_digest_309 : decode cX4_digest 309 = .ok (.aload_n 0, 1) := by decide +kernel
theorem dX4_digest_310 : decode cX4_digest 310 = .ok (.iload 4, 2) := by decide +kernel
theorem dX4_digest_312 : decode cX4_digest 312 = .ok (.iconst 2, 1) := by decide +kernel
theorem dX4_digest_313 : decode cX4_digest 313 = .ok (.invokevirtual 64, 3) := by decide +kernel
theorem dX4_digest_316 : decode cX4_digest 316 = .ok (.iastore, 1) := by decide +kernel
theorem dX4_digest_317 : decode cX4_digest 317 = .ok (.dup, 1) := by decide +kernel
theorem dX4_digest_318 : decode cX4_digest 318 = .ok (.iconst 3, 1) := by decide +kernel
theorem dX4_digest_319 : decode cX4_digest 319 = .ok (.aload_n 0, 1) := by decide +kernel
theorem dX4_digest_320 : decode cX4_digest 320 = .ok (.iload 4, 2) := by decide +kernel
theorem dX4_digest_322 : decode cX4_digest 322 = .ok (.iconst 3, 1) := by decide +kernel
theorem dX4_digest_323 : decode cX4_digest 323 = .ok (.invokevirtual 64, 3) := by decide +kernel
theorem dX4_digest_326 : decode cX4_digest 326 = .ok (.iastore, 1) := by decide +kernel
theorem dX4_digest_327 : decode cX4_digest 327 = .ok (.dup, 1) := by decide +kernel
theorem dX4_digest_328 : decode cX4_digest 328 = .ok (.iconst 4, 1) := by decide +kernel
theorem dX4_digest_329 : decode cX4_digest 329 = .ok (.aload_n 0, 1) := by decide +kernel
theorem dX4_digest_330 : decode cX4_digest 330 = .ok (.iload 4, 2) := by decide +kernel
theorem dX4_digest_332 : decode cX4_digest 332 = .ok (.invokevirtual 135, 3) := by decide +kernel
theorem dX4_digest_335 : decode cX4_digest 335 = .ok (.iastore, 1) := by decide +kernel
theorem dX4_digest_336 : decode cX4_digest 336 = .ok (.dup, 1) := by decide +kernel
theorem dX4_digest_337 : decode cX4_digest 337 = .ok (.iconst 5, 1) := by decide +kernel
theorem dX4_digest_338 : decode cX4_digest 338 = .ok (.aload_n 0, 1) := by decide +kernel
theorem dX4_digest_339 : decode cX4_digest 339 = .ok (.iload 4, 2) := by decide +kernel
theorem dX4_digest_341 : decode cX4_digest 341 = .ok (.invokevirtual 138, 3) := by decide +kernel
theorem dX4_digest_344 : decode cX4_digest 344 = .ok (.ifCond .eq 7, 3) := by decide +kernel
theorem dX4_digest_347 : decode cX4_digest 347 = .ok (.iconst 1, 1) := by decide +kernel
theorem dX4_digest_348 : decode cX4_digest 348 = .ok (.goto 4, 3) := by decide +kernel
theorem dX4_digest_351 : decode cX4_digest 351 = .ok (.iconst 0, 1) := by decide +kernel
theorem dX4_digest_352 : decode cX4_digest 352 = .ok (.iastore, 1) := by decide +kernel
theorem dX4_digest_353 : decode cX4_digest 353 = .ok (.dup, 1) := by decide +kernel
theorem dX4_digest_354 : decode cX4_digest 354 = .ok (.bipush 6, 2) := by decide +kernel
theorem dX4_digest_356 : decode cX4_digest 356 = .ok (.aload_n 0, 1) := by decide +kernel
theorem dX4_digest_357 : decode cX4_digest 357 = .ok (.iload 4, 2) := by decide +kernel
theorem dX4_digest_359 : decode cX4_digest 359 = .ok (.invokevirtual 150, 3) := by decide +kernel
theorem dX4_digest_362 : decode cX4_digest 362 = .ok (.iastore, 1) := by decide +kernel
theorem dX4_digest_363 : decode cX4_digest 363 = .ok (.dup, 1) := by decide +kernel
theorem dX4_digest_364 : decode cX4_digest 364 = .ok (.bipush 7, 2) := by decide +kernel
theorem dX4_digest_366 : decode cX4_digest 366 = .ok (.aload_n 0, 1) := by decide +kernel
theorem dX4_digest_367 : decode cX4_digest 367 = .ok (.iload 4, 2) := by decide +kernel
theorem dX4_digest_369 : decode cX4_digest 369 = .ok (.invokevirtual 153, 3) := by decide +kernel
theorem dX4_digest_372 : decode cX4_digest 372 = .ok (.iastore, 1) := by decide +kernel
theorem dX4_digest_373 : decode cX4_digest 373 = .ok (.dup, 1) := by decide +kernel
theorem dX4_digest_374 : decode cX4_digest 374 = .ok (.bipush 8, 2) := by decide +kernel
theorem dX4_digest_376 : decode cX4_digest 376 = .ok (.aload_n 0, 1) := by decide +kernel
theorem dX4_digest_377 : decode cX4_digest 377 = .ok (.iload 4, 2) := by decide +kernel
theorem dX4_digest_379 : decode cX4_digest 379 = .ok (.invokevirtual 156, 3) := by decide +kernel
theorem dX4_digest_382 : decode cX4_digest 382 = .ok (.iastore, 1) := by decide +kernel
theorem dX4_digest_383 : decode cX4_digest 383 = .ok (.dup, 1) := by decide +kernel
theorem dX4_digest_384 : decode cX4_digest 384 = .ok (.bipush 9, 2) := by decide +kernel
theorem dX4_digest_386 : decode cX4_digest 386 = .ok (.aload_n 0, 1) := by decide +kernel
theorem dX4_digest_387 : decode cX4_digest 387 = .ok (.iload 4, 2) := by decide +kernel
theorem dX4_digest_389 : decode cX4_digest 389 = .ok (.invokevirtual 159, 3) := by decide +kernel
theorem dX4_digest_392 : decode cX4_digest 392 = .ok (.iastore, 1) := by decide +kernel
theorem dX4_digest_393 : decode cX4_digest 393 = .ok (.astore 5, 2) := by decide +kernel
theorem dX4_digest_395 : decode cX4_digest 395 = .ok (.aload 5, 2) := by decide +kernel
theorem dX4_digest_397 : decode cX4_digest 397 = .ok (.astore 6, 2) := by decide +kernel
theorem dX4_digest_399 : decode cX4_digest 399 = .ok (.aload 6, 2) := by decide +kernel
theorem dX4_digest_401 : decode cX4_digest 401 = .ok (.arraylength, 1) := by decide +kernel
theorem dX4_digest_402 : decode cX4_digest 402 = .ok (.istore 7, 2) := by decide +kernel
theorem dX4_digest_404 : decode cX4_digest 404 = .ok (.iconst 0, 1) := by decide +kernel
theorem dX4_digest_405 : decode cX4_digest 405 = .ok (.istore 8, 2) := by decide +kernel
theorem dX4_digest_407 : decode cX4_digest 407 = .ok (.iload 8, 2) := by decide +kernel
theorem dX4_digest_409 : decode cX4_digest 409 = .ok (.iload 7, 2) := by decide +kernel
theorem dX4_digest_411 : decode cX4_digest 411 = .ok (.if_icmp .ge 26, 3) := by decide +kernel
theorem dX4_digest_414 : decode cX4_digest 414 = .ok (.aload 6, 2) := by decide +kernel
theorem dX4_digest_416 : decode cX4_digest 416 = .ok (.iload 8, 2) := by decide +kernel
theorem dX4_digest_418 : decode cX4_digest 418 = .ok (.iaload, 1) := by decide +kernel
theorem dX4_digest_419 : decode cX4_digest 419 = .ok (.istore 9, 2) := by decide +kernel
theorem dX4_digest_421 : decode cX4_digest 421 = .ok (.lload_n 2, 1) := by decide +kernel
theorem dX4_digest_422 : decode cX4_digest 422 = .ok (.ldc2_w 164, 3) := by decide +kernel
theorem dX4_digest_425 : decode cX4_digest 425 = .ok (.lmul, 1) := by decide +kernel
theorem dX4_digest_426 : decode cX4_digest 426 = .ok (.iload 9, 2) := by decide +kernel
theorem dX4_digest_428 : decode cX4_digest 428 = .ok (.i2l, 1) := by decide +kernel
theorem dX4_digest_429 : decode cX4_digest 429 = .ok (.ladd, 1) := by decide +kernel
theorem dX4_digest_430 : decode cX4_digest 430 = .ok (.lstore_n 2, 1) := by decide +kernel
theorem dX4_digest_431 : decode cX4_digest 431 = .ok (.iinc 8 1, 3) := by decide +kernel
theorem dX4_digest_434 : decode cX4_digest 434 = .ok (.goto (-27), 3) := by decide +kernel
theorem dX4_digest_437 : decode cX4_digest 437 = .ok (.iinc 4 1, 3) := by decide +kernel
theorem dX4_digest_440 : decode cX4_digest 440 = .ok (.goto (-166), 3) := by decide +kernel
theorem dX4_digest_443 : decode cX4_digest 443 = .ok (.lload_n 2, 1) := by decide +kernel
theorem dX4_digest_444 : decode cX4_digest 444 = .ok (.lreturn, 1) := by decide +kernel
