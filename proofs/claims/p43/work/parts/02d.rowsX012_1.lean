theorem dX1_feed_0 : decode cX1_feed 0 = .ok (.aload_n 0, 1) := by decide +kernel
theorem dX1_feed_1 : decode cX1_feed 1 = .ok (.getfield 21, 3) := by decide +kernel
theorem dX1_feed_4 : decode cX1_feed 4 = .ok (.iload_n 1, 1) := by decide +kernel
theorem dX1_feed_5 : decode cX1_feed 5 = .ok (.dup2, 1) := by decide +kernel
theorem dX1_feed_6 : decode cX1_feed 6 = .ok (.iaload, 1) := by decide +kernel
theorem dX1_feed_7 : decode cX1_feed 7 = .ok (.iconst 1, 1) := by decide +kernel
theorem dX1_feed_8 : decode cX1_feed 8 = .ok (.iadd, 1) := by decide +kernel
theorem dX1_feed_9 : decode cX1_feed 9 = .ok (.iastore, 1) := by decide +kernel
theorem dX1_feed_10 : decode cX1_feed 10 = .ok (.aload_n 0, 1) := by decide +kernel
theorem dX1_feed_11 : decode cX1_feed 11 = .ok (.getfield 18, 3) := by decide +kernel
theorem dX1_feed_14 : decode cX1_feed 14 = .ok (.iload_n 1, 1) := by decide +kernel
theorem dX1_feed_15 : decode cX1_feed 15 = .ok (.iconst 3, 1) := by decide +kernel
theorem dX1_feed_16 : decode cX1_feed 16 = .ok (.iastore, 1) := by decide +kernel
theorem dX1_feed_17 : decode cX1_feed 17 = .ok (.aload_n 0, 1) := by decide +kernel
theorem dX1_feed_18 : decode cX1_feed 18 = .ok (.getfield 15, 3) := by decide +kernel
theorem dX1_feed_21 : decode cX1_feed 21 = .ok (.iload_n 1, 1) := by decide +kernel
theorem dX1_feed_22 : decode cX1_feed 22 = .ok (.iconst 1, 1) := by decide +kernel
theorem dX1_feed_23 : decode cX1_feed 23 = .ok (.aload_n 0, 1) := by decide +kernel
theorem dX1_feed_24 : decode cX1_feed 24 = .ok (.getfield 15, 3) := by decide +kernel
theorem dX1_feed_27 : decode cX1_feed 27 = .ok (.iload_n 1, 1) := by decide +kernel
theorem dX1_feed_28 : decode cX1_feed 28 = .ok (.iaload, 1) := by decide +kernel
theorem dX1_feed_29 : decode cX1_feed 29 = .ok (.iconst 1, 1) := by decide +kernel
theorem dX1_feed_30 : decode cX1_feed 30 = .ok (.isub, 1) := by decide +kernel
theorem dX1_feed_31 : decode cX1_feed 31 = .ok (.invokestatic 32, 3) := by decide +kernel
theorem dX1_feed_34 : decode cX1_feed 34 = .ok (.iastore, 1) := by decide +kernel
theorem dX1_feed_35 : decode cX1_feed 35 = .ok (.return_, 1) := by decide +kernel
set_option maxRecDepth 20000 in
theorem ggX1_enrage_X1_isAwakeThere : GoodIn wsX1_enrage wsX1_isAwakeThere := goodIn_r _ [11, 12, 13, 14, 15, 16, 17, 18] (by decide +kernel) (by decide +kernel)
set_option maxRecDepth 20000 in
theorem gX1_enrage_X1_isAwakeThere : GoodIn wsX1_enrage (wsV RX1 28 RX1 yX1_isAwakeThere wsX1_isAwakeThere) := goodIn_app (goodIn_of _ (by decide +kernel)) ggX1_enrage_X1_isAwakeThere
theorem dX1_enrage_0 : decode cX1_enrage 0 = .ok (.iconst 0, 1) := by decide +kernel
theorem dX1_enrage_1 : decode cX1_enrage 1 = .ok (.istore_n 2, 1) := by decide +kernel
theorem dX1_enrage_2 : decode cX1_enrage 2 = .ok (.iload_n 2, 1) := by decide +kernel
theorem dX1_enrage_3 : decode cX1_enrage 3 = .ok (.aload_n 0, 1) := by decide +kernel
theorem dX1_enrage_4 : decode cX1_enrage 4 = .ok (.getfield 24, 3) := by decide +kernel
theorem dX1_enrage_7 : decode cX1_enrage 7 = .ok (.if_icmp .ge 37, 3) := by decide +kernel
theorem dX1_enrage_10 : decode cX1_enrage 10 = .ok (.aload_n 0, 1) := by decide +kernel
theorem dX1_enrage_11 : decode cX1_enrage 11 = .ok (.iload_n 2, 1) := by decide +kernel
theorem dX1_enrage_12 : decode cX1_enrage 12 = .ok (.iload_n 1, 1) := by decide +kernel
theorem dX1_enrage_13 : decode cX1_enrage 13 = .ok (.invokevirtual 28, 3) := by decide +kernel
theorem dX1_enrage_16 : decode cX1_enrage 16 = .ok (.ifCond .eq 22, 3) := by decide +kernel
theorem dX1_enrage_19 : decode cX1_enrage 19 = .ok (.aload_n 0, 1) := by decide +kernel
theorem dX1_enrage_20 : decode cX1_enrage 20 = .ok (.getfield 15, 3) := by decide +kernel
theorem dX1_enrage_23 : decode cX1_enrage 23 = .ok (.iload_n 2, 1) := by decide +kernel
theorem dX1_enrage_24 : decode cX1_enrage 24 = .ok (.bipush 9, 2) := by decide +kernel
theorem dX1_enrage_26 : decode cX1_enrage 26 = .ok (.aload_n 0, 1) := by decide +kernel
theorem dX1_enrage_27 : decode cX1_enrage 27 = .ok (.getfield 15, 3) := by decide +kernel
theorem dX1_enrage_30 : decode cX1_enrage 30 = .ok (.iload_n 2, 1) := by decide +kernel
theorem dX1_enrage_31 : decode cX1_enrage 31 = .ok (.iaload, 1) := by decide +kernel
theorem dX1_enrage_32 : decode cX1_enrage 32 = .ok (.iconst 1, 1) := by decide +kernel
theorem dX1_enrage_33 : decode cX1_enrage 33 = .ok (.iadd, 1) := by decide +kernel
theorem dX1_enrage_34 : decode cX1_enrage 34 = .ok (.invokestatic 38, 3) := by decide +kernel
theorem dX1_enrage_37 : decode cX1_enrage 37 = .ok (.iastore, 1) := by decide +kernel
theorem dX1_enrage_38 : decode cX1_enrage 38 = .ok (.iinc 2 1, 3) := by decide +kernel
theorem dX1_enrage_41 : decode cX1_enrage 41 = .ok (.goto (-39), 3) := by decide +kernel
theorem dX1_enrage_44 : decode cX1_enrage 44 = .ok (.return_, 1) := by decide +kernel
theorem dX1_wakeByABeat_0 : decode cX1_wakeByABeat 0 = .ok (.iconst 0, 1) := by decide +kernel
theorem dX1_wakeByABeat_1 : decode cX1_wakeByABeat 1 = .ok (.istore_n 1, 1) := by decide +kernel
theorem dX1_wakeByABeat_2 : decode cX1_wakeByABeat 2 = .ok (.iload_n 1, 1) := by decide +kernel
theorem dX1_wakeByABeat_3 : decode cX1_wakeByABeat 3 = .ok (.aload_n 0, 1) := by decide +kernel
theorem dX1_wakeByABeat_4 : decode cX1_wakeByABeat 4 = .ok (.getfield 24, 3) := by decide +kernel
theorem dX1_wakeByABeat_7 : decode cX1_wakeByABeat 7 = .ok (.if_icmp .ge 28, 3) := by decide +kernel
theorem dX1_wakeByABeat_10 : decode cX1_wakeByABeat 10 = .ok (.aload_n 0, 1) := by decide +kernel
theorem dX1_wakeByABeat_11 : decode cX1_wakeByABeat 11 = .ok (.getfield 18, 3) := by decide +kernel
theorem dX1_wakeByABeat_14 : decode cX1_wakeByABeat 14 = .ok (.iload_n 1, 1) := by decide +kernel
theorem dX1_wakeByABeat_15 : decode cX1_wakeByABeat 15 = .ok (.iaload, 1) := by decide +kernel
theorem dX1_wakeByABeat_16 : decode cX1_wakeByABeat 16 = .ok (.ifCond .le 13, 3) := by decide +kernel
theorem dX1_wakeByABeat_19 : decode cX1_wakeByABeat 19 = .ok (.aload_n 0, 1) := by decide +kernel
theorem dX1_wakeByABeat_20 : decode cX1_wakeByABeat 20 = .ok (.getfield 18, 3) := by decide +kernel
theorem dX1_wakeByABeat_23 : decode cX1_wakeByABeat 23 = .ok (.iload_n 1, 1) := by decide +kernel
theorem dX1_wakeByABeat_24 : decode cX1_wakeByABeat 24 = .ok (.dup2, 1) := by decide +kernel
theorem dX1_wakeByABeat_25 : decode cX1_wakeByABeat 25 = .ok (.iaload, 1) := by decide +kernel
theorem dX1_wakeByABeat_26 : decode cX1_wakeByABeat 26 = .ok (.iconst 1, 1) := by decide +kernel
theorem dX1_wakeByABeat_27 : decode cX1_wakeByABeat 27 = .ok (.isub, 1) := by decide +kernel
theorem dX1_wakeByABeat_28 : decode cX1_wakeByABeat 28 = .ok (.iastore, 1) := by decide +kernel
theorem dX1_wakeByABeat_29 : decode cX1_wakeByABeat 29 = .ok (.iinc 1 1, 3) := by decide +kernel
theorem dX1_wakeByABeat_32 : decode cX1_wakeByABeat 32 = .ok (.goto (-30), 3) := by decide +kernel
theorem dX1_wakeByABeat_35 : decode cX1_wakeByABeat 35 = .ok (.return_, 1) := by decide +kernel
theorem dX1_sumOfTempers_0 : decode cX1_sumOfTempers 0 = .ok (.iconst 0, 1) := by decide +kernel
theorem dX1_sumOfTempers_1 : decode cX1_sumOfTempers 1 = .ok (.istore_n 1, 1) := by decide +kernel
theorem dX1_sumOfTempers_2 : decode cX1_sumOfTempers 2 = .ok (.iconst 0, 1) := by decide +kernel
theorem dX1_sumOfTempers_3 : decode cX1_sumOfTempers 3 = .ok (.istore_n 2, 1) := by decide +kernel
theorem dX1_sumOfTempers_4 : decode cX1_sumOfTempers 4 = .ok (.iload_n 2, 1) := by decide +kernel
theorem dX1_sumOfTempers_5 : decode cX1_sumOfTempers 5 = .ok (.aload_n 0, 1) := by decide +kernel
theorem dX1_sumOfTempers_6 : decode cX1_sumOfTempers 6 = .ok (.getfield 24, 3) := by decide +kernel
theorem dX1_sumOfTempers_9 : decode cX1_sumOfTempers 9 = .ok (.if_icmp .ge 18, 3) := by decide +kernel
theorem dX1_sumOfTempers_12 : decode cX1_sumOfTempers 12 = .ok (.iload_n 1, 1) := by decide +kernel
theorem dX1_sumOfTempers_13 : decode cX1_sumOfTempers 13 = .ok (.aload_n 0, 1) := by decide +kernel
theorem dX1_sumOfTempers_14 : decode cX1_sumOfTempers 14 = .ok (.getfield 15, 3) := by decide +kernel
theorem dX1_sumOfTempers_17 : decode cX1_sumOfTempers 17 = .ok (.iload_n 2, 1) := by decide +kernel
theorem dX1_sumOfTempers_18 : decode cX1_sumOfTempers 18 = .ok (.iaload, 1) := by decide +kernel
theorem dX1_sumOfTempers_19 : decode cX1_sumOfTempers 19 = .ok (.iadd, 1) := by decide +kernel
theorem dX1_sumOfTempers_20 : decode cX1_sumOfTempers 20 = .ok (.istore_n 1, 1) := by decide +kernel
theorem dX1_sumOfTempers_21 : decode cX1_sumOfTempers 21 = .ok (.iinc 2 1, 3) := by decide +kernel
theorem dX1_sumOfTempers_24 : decode cX1_sumOfTempers 24 = .ok (.goto (-20), 3) := by decide +kernel
theorem dX1_sumOfTempers_27 : decode cX1_sumOfTempers 27 = .ok (.iload_n 1, 1) := by decide +kernel
theorem dX1_sumOfTempers_28 : decode cX1_sumOfTempers 28 = .ok (.ireturn, 1) := by decide +kernel
theorem dX2_init_0 : decode cX2_init 0 = .ok (.aload_n 0, 1) := by decide +kernel
theorem dX2_init_1 : decode cX2_init 1 = .ok (.invokespecial 3, 3) := by decide +kernel
theorem dX2_init_4 : decode cX2_init 4 = .ok (.aload_n 0, 1) := by decide +kernel
theorem dX2_init_5 : decode cX2_init 5 = .ok (.bipush 8, 2) := by decide +kernel
theorem dX2_init_7 : decode cX2_init 7 = .ok (.newarray .int, 2) := by decide +kernel
theorem dX2_init_9 : decode cX2_init 9 = .ok (.putfield 9, 3) := by decide +kernel
theorem dX2_init_12 : decode cX2_init 12 = .ok (.aload_n 0, 1) := by decide +kernel
theorem dX2_init_13 : decode cX2_init 13 = .ok (.bipush 8, 2) := by decide +kernel
theorem dX2_init_15 : decode cX2_init 15 = .ok (.newarray .int, 2) := by decide +kernel
theorem dX2_init_17 : decode cX2_init 17 = .ok (.putfield 15, 3) := by decide +kernel
theorem dX2_init_20 : decode cX2_init 20 = .ok (.aload_n 0, 1) := by decide +kernel
theorem dX2_init_21 : decode cX2_init 21 = .ok (.bipush 8, 2) := by decide +kernel
theorem dX2_init_23 : decode cX2_init 23 = .ok (.newarray .int, 2) := by decide +kernel
theorem dX2_init_25 : decode cX2_init 25 = .ok (.putfield 18, 3) := by decide +kernel
theorem dX2_init_28 : decode cX2_init 28 = .ok (.aload_n 0, 1) := by decide +kernel
theorem dX2_init_29 : decode cX2_init 29 = .ok (.bipush 8, 2) := by decide +kernel
theorem dX2_init_31 : decode cX2_init 31 = .ok (.newarray .int, 2) := by decide +kernel
theorem dX2_init_33 : decode cX2_init 33 = .ok (.putfield 21, 3) := by decide +kernel
theorem dX2_init_36 : decode cX2_init 36 = .ok (.aload_n 0, 1) := by decide +kernel
theorem dX2_init_37 : decode cX2_init 37 = .ok (.bipush 8, 2) := by decide +kernel
theorem dX2_init_39 : decode cX2_init 39 = .ok (.newarray .int, 2) := by decide +kernel
theorem dX2_init_41 : decode cX2_init 41 = .ok (.putfield 24, 3) := by decide +kernel
theorem dX2_init_44 : decode cX2_init 44 = .ok (.return_, 1) := by decide +kernel
theorem dX2_hasGuest_0 : decode cX2_hasGuest 0 = .ok (.iload_n 1, 1) := by decide +kernel
theorem dX2_hasGuest_1 : decode cX2_hasGuest 1 = .ok (.ifCond .lt 15, 3) := by decide +kernel
theorem dX2_hasGuest_4 : decode cX2_hasGuest 4 = .ok (.iload_n 1, 1) := by decide +kernel
theorem dX2_hasGuest_5 : decode cX2_hasGuest 5 = .ok (.aload_n 0, 1) := by decide +kernel
theorem dX2_hasGuest_6 : decode cX2_hasGuest 6 = .ok (.getfield 27, 3) := by decide +kernel
theorem dX2_hasGuest_9 : decode cX2_hasGuest 9 = .ok (.if_icmp .ge 7, 3) := by decide +kernel
theorem dX2_hasGuest_12 : decode cX2_hasGuest 12 = .ok (.iconst 1, 1) := by decide +kernel
theorem dX2_hasGuest_13 : decode cX2_hasGuest 13 = .ok (.goto 4, 3) := by decide +kernel
theorem dX2_hasGuest_16 : decode cX2_hasGuest 16 = .ok (.iconst 0, 1) := by decide +kernel
theorem dX2_hasGuest_17 : decode cX2_hasGuest 17 = .ok (.ireturn, 1) := by decide +kernel
theorem dX2_putGuest_0 : decode cX2_putGuest 0 = .ok (.aload_n 0, 1) := by decide +kernel
theorem dX2_putGuest_1 : decode cX2_putGuest 1 = .ok (.getfield 27, 3) := by decide +kernel
theorem dX2_putGuest_4 : decode cX2_putGuest 4 = .ok (.istore 4, 2) := by decide +kernel
theorem dX2_putGuest_6 : decode cX2_putGuest 6 = .ok (.aload_n 0, 1) := by decide +kernel
theorem dX2_putGuest_7 : decode cX2_putGuest 7 = .ok (.getfield 9, 3) := by decide +kernel
theorem dX2_putGuest_10 : decode cX2_putGuest 10 = .ok (.iload 4, 2) := by decide +kernel
theorem dX2_putGuest_12 : decode cX2_putGuest 12 = .ok (.iload_n 1, 1) := by decide +kernel
theorem dX2_putGuest_13 : decode cX2_putGuest 13 = .ok (.iastore, 1) := by decide +kernel
theorem dX2_putGuest_14 : decode cX2_putGuest 14 = .ok (.aload_n 0, 1) := by decide +kernel
theorem dX2_putGuest_15 : decode cX2_putGuest 15 = .ok (.getfield 15, 3) := by decide +kernel
theorem dX2_putGuest_18 : decode cX2_putGuest 18 = .ok (.iload 4, 2) := by decide +kernel
theorem dX2_putGuest_20 : decode cX2_putGuest 20 = .ok (.iload_n 2, 1) := by decide +kernel
theorem dX2_putGuest_21 : decode cX2_putGuest 21 = .ok (.iastore, 1) := by decide +kernel
theorem dX2_putGuest_22 : decode cX2_putGuest 22 = .ok (.aload_n 0, 1) := by decide +kernel
theorem dX2_putGuest_23 : decode cX2_putGuest 23 = .ok (.getfield 18, 3) := by decide +kernel
theorem dX2_putGuest_26 : decode cX2_putGuest 26 = .ok (.iload 4, 2) := by decide +kernel
theorem dX2_putGuest_28 : decode cX2_putGuest 28 = .ok (.iload_n 3, 1) := by decide +kernel
theorem dX2_putGuest_29 : decode cX2_putGuest 29 = .ok (.iastore, 1) := by decide +kernel
theorem dX2_putGuest_30 : decode cX2_putGuest 30 = .ok (.aload_n 0, 1) := by decide +kernel
theorem dX2_putGuest_31 : decode cX2_putGuest 31 = .ok (.dup, 1) := by decide +kernel
theorem dX2_putGuest_32 : decode cX2_putGuest 32 = .ok (.getfield 27, 3) := by decide +kernel
theorem dX2_putGuest_35 : decode cX2_putGuest 35 = .ok (.iconst 1, 1) := by decide +kernel
theorem dX2_putGuest_36 : decode cX2_putGuest 36 = .ok (.iadd, 1) := by decide +kernel
theorem dX2_putGuest_37 : decode cX2_putGuest 37 = .ok (.putfield 27, 3) := by decide +kernel
theorem dX2_putGuest_40 : decode cX2_putGuest 40 = .ok (.iload 4, 2) := by decide +kernel
theorem dX2_putGuest_42 : decode cX2_putGuest 42 = .ok (.ireturn, 1) := by decide +kernel
theorem dX2_fallBack_0 : decode cX2_fallBack 0 = .ok (.aload_n 0, 1) := by decide +kernel
theorem dX2_fallBack_1 : decode cX2_fallBack 1 = .ok (.getfield 24, 3) := by decide +kernel
theorem dX2_fallBack_4 : decode cX2_fallBack 4 = .ok (.iload_n 1, 1) := by decide +kernel
theorem dX2_fallBack_5 : decode cX2_fallBack 5 = .ok (.iload_n 2, 1) := by decide +kernel
theorem dX2_fallBack_6 : decode cX2_fallBack 6 = .ok (.iastore, 1) := by decide +kernel
theorem dX2_fallBack_7 : decode cX2_fallBack 7 = .ok (.aload_n 0, 1) := by decide +kernel
theorem dX2_fallBack_8 : decode cX2_fallBack 8 = .ok (.getfield 15, 3) := by decide +kernel
theorem dX2_fallBack_11 : decode cX2_fallBack 11 = .ok (.iload_n 1, 1) := by decide +kernel
theorem dX2_fallBack_12 : decode cX2_fallBack 12 = .ok (.bipush 20, 2) := by decide +kernel
theorem dX2_fallBack_14 : decode cX2_fallBack 14 = .ok (.aload_n 0, 1) := by decide +kernel
theorem dX2_fallBack_15 : decode cX2_fallBack 15 = .ok (.getfield 15, 3) := by decide +kernel
theorem dX2_fallBack_18 : decode cX2_fallBack 18 = .ok (.iload_n 1, 1) := by decide +kernel
theorem dX2_fallBack_19 : decode cX2_fallBack 19 = .ok (.iaload, 1) := by decide +kernel
theorem dX2_fallBack_20 : decode cX2_fallBack 20 = .ok (.iconst 1, 1) := by decide +kernel
theorem dX2_fallBack_21 : decode cX2_fallBack 21 = .ok (.iadd, 1) := by decide +kernel
theorem dX2_fallBack_22 : decode cX2_fallBack 22 = .ok (.invokestatic 31, 3) := by decide +kernel
theorem dX2_fallBack_25 : decode cX2_fallBack 25 = .ok (.iastore, 1) := by decide +kernel
theorem dX2_fallBack_26 : decode cX2_fallBack 26 = .ok (.aload_n 0, 1) := by decide +kernel
theorem dX2_fallBack_27 : decode cX2_fallBack 27 = .ok (.getfield 21, 3) := by decide +kernel
theorem dX2_fallBack_30 : decode cX2_fallBack 30 = .ok (.iload_n 1, 1) := by decide +kernel
theorem dX2_fallBack_31 : decode cX2_fallBack 31 = .ok (.iaload, 1) := by decide +kernel
theorem dX2_fallBack_32 : decode cX2_fallBack 32 = .ok (.ifCond .le 13, 3) := by decide +kernel
theorem dX2_fallBack_35 : decode cX2_fallBack 35 = .ok (.aload_n 0, 1) := by decide +kernel
theorem dX2_fallBack_36 : decode cX2_fallBack 36 = .ok (.getfield 21, 3) := by decide +kernel
theorem dX2_fallBack_39 : decode cX2_fallBack 39 = .ok (.iload_n 1, 1) := by decide +kernel
theorem dX2_fallBack_40 : decode cX2_fallBack 40 = .ok (.dup2, 1) := by decide +kernel
theorem dX2_fallBack_41 : decode cX2_fallBack 41 = .ok (.iaload, 1) := by decide +kernel
theorem dX2_fallBack_42 : decode cX2_fallBack 42 = .ok (.iconst 1, 1) := by decide +kernel
theorem dX2_fallBack_43 : decode cX2_fallBack 43 = .ok (.isub, 1) := by decide +kernel
theorem dX2_fallBack_44 : decode cX2_fallBack 44 = .ok (.iastore, 1) := by decide +kernel
theorem dX2_fallBack_45 : decode cX2_fallBack 45 = .ok (.return_, 1) := by decide +kernel
theorem dJ9_max_7cf53_0 : decode cJ9_max_7cf53 0 = .ok (.iload_n 0, 1) := by decide +kernel
theorem dJ9_max_7cf53_1 : decode cJ9_max_7cf53 1 = .ok (.iload_n 1, 1) := by decide +kernel
theorem dJ9_max_7cf53_2 : decode cJ9_max_7cf53 2 = .ok (.if_icmp .lt 7, 3) := by decide +kernel
theorem dJ9_max_7cf53_5 : decode cJ9_max_7cf53 5 = .ok (.iload_n 0, 1) := by decide +kernel
theorem dJ9_max_7cf53_6 : decode cJ9_max_7cf53 6 = .ok (.goto 4, 3) := by decide +kernel
theorem dJ9_max_7cf53_9 : decode cJ9_max_7cf53 9 = .ok (.iload_n 1, 1) := by decide +kernel
theorem dJ9_max_7cf53_10 : decode cJ9_max_7cf53 10 = .ok (.ireturn, 1) := by decide +kernel
theorem dJ9_min_7cf53_0 : decode cJ9_min_7cf53 0 = .ok (.iload_n 0, 1) := by decide +kernel
theorem dJ9_min_7cf53_1 : decode cJ9_min_7cf53 1 = .ok (.iload_n 1, 1) := by decide +kernel
theorem dJ9_min_7cf53_2 : decode cJ9_min_7cf53 2 = .ok (.if_icmp .gt 7, 3) := by decide +kernel
theorem dJ9_min_7cf53_5 : decode cJ9_min_7cf53 5 = .ok (.iload_n 0, 1) := by decide +kernel
theorem dJ9_min_7cf53_6 : decode cJ9_min_7cf53 6 = .ok (.goto 4, 3) := by decide +kernel
theorem dJ9_min_7cf53_9 : decode cJ9_min_7cf53 9 = .ok (.iload_n 1, 1) := by decide +kernel
theorem dJ9_min_7cf53_10 : decode cJ9_min_7cf53 10 = .ok (.ireturn, 1) := by decide +kernel
