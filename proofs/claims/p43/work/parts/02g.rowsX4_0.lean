theorem dX4_init_0 : decode cX4_init 0 = .ok (.aload_n 0, 1) := by decide +kernel
theorem dX4_init_1 : decode cX4_init 1 = .ok (.invokespecial 1, 3) := by decide +kernel
theorem dX4_init_4 : decode cX4_init 4 = .ok (.aload_n 0, 1) := by decide +kernel
theorem dX4_init_5 : decode cX4_init 5 = .ok (.iconst 0, 1) := by decide +kernel
theorem dX4_init_6 : decode cX4_init 6 = .ok (.newarray .int, 2) := by decide +kernel
theorem dX4_init_8 : decode cX4_init 8 = .ok (.putfield 7, 3) := by decide +kernel
theorem dX4_init_11 : decode cX4_init 11 = .ok (.aload_n 0, 1) := by decide +kernel
theorem dX4_init_12 : decode cX4_init 12 = .ok (.iconst 0, 1) := by decide +kernel
theorem dX4_init_13 : decode cX4_init 13 = .ok (.anewarray 13, 3) := by decide +kernel
theorem dX4_init_16 : decode cX4_init 16 = .ok (.putfield 14, 3) := by decide +kernel
theorem dX4_init_19 : decode cX4_init 19 = .ok (.aload_n 0, 1) := by decide +kernel
theorem dX4_init_20 : decode cX4_init 20 = .ok (.iconst 0, 1) := by decide +kernel
theorem dX4_init_21 : decode cX4_init 21 = .ok (.anewarray 13, 3) := by decide +kernel
theorem dX4_init_24 : decode cX4_init 24 = .ok (.putfield 18, 3) := by decide +kernel
theorem dX4_init_27 : decode cX4_init 27 = .ok (.return_, 1) := by decide +kernel
theorem dX4_with_0 : decode cX4_with 0 = .ok (.aload_n 0, 1) := by decide +kernel
theorem dX4_with_1 : decode cX4_with 1 = .ok (.arraylength, 1) := by decide +kernel
theorem dX4_with_2 : decode cX4_with 2 = .ok (.iconst 1, 1) := by decide +kernel
theorem dX4_with_3 : decode cX4_with 3 = .ok (.iadd, 1) := by decide +kernel
theorem dX4_with_4 : decode cX4_with 4 = .ok (.anewarray 13, 3) := by decide +kernel
theorem dX4_with_7 : decode cX4_with 7 = .ok (.astore_n 2, 1) := by decide +kernel
theorem dX4_with_8 : decode cX4_with 8 = .ok (.iconst 0, 1) := by decide +kernel
theorem dX4_with_9 : decode cX4_with 9 = .ok (.istore_n 3, 1) := by decide +kernel
theorem dX4_with_10 : decode cX4_with 10 = .ok (.iload_n 3, 1) := by decide +kernel
theorem dX4_with_11 : decode cX4_with 11 = .ok (.aload_n 0, 1) := by decide +kernel
theorem dX4_with_12 : decode cX4_with 12 = .ok (.arraylength, 1) := by decide +kernel
theorem dX4_with_13 : decode cX4_with 13 = .ok (.if_icmp .ge 15, 3) := by decide +kernel
theorem dX4_with_16 : decode cX4_with 16 = .ok (.aload_n 2, 1) := by decide +kernel
theorem dX4_with_17 : decode cX4_with 17 = .ok (.iload_n 3, 1) := by decide +kernel
theorem dX4_with_18 : decode cX4_with 18 = .ok (.aload_n 0, 1) := by decide +kernel
theorem dX4_with_19 : decode cX4_with 19 = .ok (.iload_n 3, 1) := by decide +kernel
theorem dX4_with_20 : decode cX4_with 20 = .ok (.aaload, 1) := by decide +kernel
theorem dX4_with_21 : decode cX4_with 21 = .ok (.aastore, 1) := by decide +kernel
theorem dX4_with_22 : decode cX4_with 22 = .ok (.iinc 3 1, 3) := by decide +kernel
theorem dX4_with_25 : decode cX4_with 25 = .ok (.goto (-15), 3) := by decide +kernel
theorem dX4_with_28 : decode cX4_with 28 = .ok (.aload_n 2, 1) := by decide +kernel
theorem dX4_with_29 : decode cX4_with 29 = .ok (.aload_n 0, 1) := by decide +kernel
theorem dX4_with_30 : decode cX4_with 30 = .ok (.arraylength, 1) := by decide +kernel
theorem dX4_with_31 : decode cX4_with 31 = .ok (.aload_n 1, 1) := by decide +kernel
theorem dX4_with_32 : decode cX4_with 32 = .ok (.aastore, 1) := by decide +kernel
theorem dX4_with_33 : decode cX4_with 33 = .ok (.aload_n 2, 1) := by decide +kernel
theorem dX4_with_34 : decode cX4_with 34 = .ok (.areturn, 1) := by decide +kernel
theorem dX4_addGate_0 : decode cX4_addGate 0 = .ok (.aload_n 0, 1) := by decide +kernel
theorem dX4_addGate_1 : decode cX4_addGate 1 = .ok (.getfield 7, 3) := by decide +kernel
theorem dX4_addGate_4 : decode cX4_addGate 4 = .ok (.arraylength, 1) := by decide +kernel
theorem dX4_addGate_5 : decode cX4_addGate 5 = .ok (.iconst 1, 1) := by decide +kernel
theorem dX4_addGate_6 : decode cX4_addGate 6 = .ok (.iadd, 1) := by decide +kernel
theorem dX4_addGate_7 : decode cX4_addGate 7 = .ok (.newarray .int, 2) := by decide +kernel
theorem dX4_addGate_9 : decode cX4_addGate 9 = .ok (.astore_n 2, 1) := by decide +kernel
theorem dX4_addGate_10 : decode cX4_addGate 10 = .ok (.iconst 0, 1) := by decide +kernel
theorem dX4_addGate_11 : decode cX4_addGate 11 = .ok (.istore_n 3, 1) := by decide +kernel
theorem dX4_addGate_12 : decode cX4_addGate 12 = .ok (.iload_n 3, 1) := by decide +kernel
theorem dX4_addGate_13 : decode cX4_addGate 13 = .ok (.aload_n 0, 1) := by decide +kernel
theorem dX4_addGate_14 : decode cX4_addGate 14 = .ok (.getfield 7, 3) := by decide +kernel
theorem dX4_addGate_17 : decode cX4_addGate 17 = .ok (.arraylength, 1) := by decide +kernel
theorem dX4_addGate_18 : decode cX4_addGate 18 = .ok (.if_icmp .ge 18, 3) := by decide +kernel
theorem dX4_addGate_21 : decode cX4_addGate 21 = .ok (.aload_n 2, 1) := by decide +kernel
theorem dX4_addGate_22 : decode cX4_addGate 22 = .ok (.iload_n 3, 1) := by decide +kernel
theorem dX4_addGate_23 : decode cX4_addGate 23 = .ok (.aload_n 0, 1) := by decide +kernel
theorem dX4_addGate_24 : decode cX4_addGate 24 = .ok (.getfield 7, 3) := by decide +kernel
theorem dX4_addGate_27 : decode cX4_addGate 27 = .ok (.iload_n 3, 1) := by decide +kernel
theorem dX4_addGate_28 : decode cX4_addGate 28 = .ok (.iaload, 1) := by decide +kernel
theorem dX4_addGate_29 : decode cX4_addGate 29 = .ok (.iastore, 1) := by decide +kernel
theorem dX4_addGate_30 : decode cX4_addGate 30 = .ok (.iinc 3 1, 3) := by decide +kernel
theorem dX4_addGate_33 : decode cX4_addGate 33 = .ok (.goto (-21), 3) := by decide +kernel
theorem dX4_addGate_36 : decode cX4_addGate 36 = .ok (.aload_n 2, 1) := by decide +kernel
theorem dX4_addGate_37 : decode cX4_addGate 37 = .ok (.aload_n 0, 1) := by decide +kernel
theorem dX4_addGate_38 : decode cX4_addGate 38 = .ok (.getfield 7, 3) := by decide +kernel
theorem dX4_addGate_41 : decode cX4_addGate 41 = .ok (.arraylength, 1) := by decide +kernel
theorem dX4_addGate_42 : decode cX4_addGate 42 = .ok (.iload_n 1, 1) := by decide +kernel
theorem dX4_addGate_43 : decode cX4_addGate 43 = .ok (.iastore, 1) := by decide +kernel
theorem dX4_addGate_44 : decode cX4_addGate 44 = .ok (.aload_n 0, 1) := by decide +kernel
theorem dX4_addGate_45 : decode cX4_addGate 45 = .ok (.aload_n 2, 1) := by decide +kernel
theorem dX4_addGate_46 : decode cX4_addGate 46 = .ok (.putfield 7, 3) := by decide +kernel
theorem dX4_addGate_49 : decode cX4_addGate 49 = .ok (.return_, 1) := by decide +kernel
theorem dX4_hiss_0 : decode cX4_hiss 0 = .ok (.iconst 0, 1) := by decide +kernel
theorem dX4_hiss_1 : decode cX4_hiss 1 = .ok (.istore_n 3, 1) := by decide +kernel
theorem dX4_hiss_2 : decode cX4_hiss 2 = .ok (.aload_n 0, 1) := by decide +kernel
theorem dX4_hiss_3 : decode cX4_hiss 3 = .ok (.getfield 14, 3) := by decide +kernel
theorem dX4_hiss_6 : decode cX4_hiss 6 = .ok (.astore 4, 2) := by decide +kernel
theorem dX4_hiss_8 : decode cX4_hiss 8 = .ok (.aload 4, 2) := by decide +kernel
theorem dX4_hiss_10 : decode cX4_hiss 10 = .ok (.arraylength, 1) := by decide +kernel
theorem dX4_hiss_11 : decode cX4_hiss 11 = .ok (.istore 5, 2) := by decide +kernel
theorem dX4_hiss_13 : decode cX4_hiss 13 = .ok (.iconst 0, 1) := by decide +kernel
theorem dX4_hiss_14 : decode cX4_hiss 14 = .ok (.istore 6, 2) := by decide +kernel
theorem dX4_hiss_16 : decode cX4_hiss 16 = .ok (.iload 6, 2) := by decide +kernel
theorem dX4_hiss_18 : decode cX4_hiss 18 = .ok (.iload 5, 2) := by decide +kernel
theorem dX4_hiss_20 : decode cX4_hiss 20 = .ok (.if_icmp .ge 62, 3) := by decide +kernel
theorem dX4_hiss_23 : decode cX4_hiss 23 = .ok (.aload 4, 2) := by decide +kernel
theorem dX4_hiss_25 : decode cX4_hiss 25 = .ok (.iload 6, 2) := by decide +kernel
theorem dX4_hiss_27 : decode cX4_hiss 27 = .ok (.aaload, 1) := by decide +kernel
theorem dX4_hiss_28 : decode cX4_hiss 28 = .ok (.astore 7, 2) := by decide +kernel
theorem dX4_hiss_30 : decode cX4_hiss 30 = .ok (.aload 7, 2) := by decide +kernel
theorem dX4_hiss_32 : decode cX4_hiss 32 = .ok (.iconst 0, 1) := by decide +kernel
theorem dX4_hiss_33 : decode cX4_hiss 33 = .ok (.iaload, 1) := by decide +kernel
theorem dX4_hiss_34 : decode cX4_hiss 34 = .ok (.iload_n 1, 1) := by decide +kernel
theorem dX4_hiss_35 : decode cX4_hiss 35 = .ok (.if_icmp .ne 41, 3) := by decide +kernel
theorem dX4_hiss_38 : decode cX4_hiss 38 = .ok (.aload 7, 2) := by decide +kernel
theorem dX4_hiss_40 : decode cX4_hiss 40 = .ok (.iconst 2, 1) := by decide +kernel
theorem dX4_hiss_41 : decode cX4_hiss 41 = .ok (.iaload, 1) := by decide +kernel
theorem dX4_hiss_42 : decode cX4_hiss 42 = .ok (.ifCond .le 6, 3) := by decide +kernel
theorem dX4_hiss_45 : decode cX4_hiss 45 = .ok (.goto 31, 3) := by decide +kernel
theorem dX4_hiss_48 : decode cX4_hiss 48 = .ok (.iload_n 3, 1) := by decide +kernel
theorem dX4_hiss_49 : decode cX4_hiss 49 = .ok (.aload 7, 2) := by decide +kernel
theorem dX4_hiss_51 : decode cX4_hiss 51 = .ok (.iconst 1, 1) := by decide +kernel
theorem dX4_hiss_52 : decode cX4_hiss 52 = .ok (.iaload, 1) := by decide +kernel
theorem dX4_hiss_53 : decode cX4_hiss 53 = .ok (.iadd, 1) := by decide +kernel
theorem dX4_hiss_54 : decode cX4_hiss 54 = .ok (.istore_n 3, 1) := by decide +kernel
theorem dX4_hiss_55 : decode cX4_hiss 55 = .ok (.aload_n 0, 1) := by decide +kernel
theorem dX4_hiss_56 : decode cX4_hiss 56 = .ok (.getfield 7, 3) := by decide +kernel
theorem dX4_hiss_59 : decode cX4_hiss 59 = .ok (.iload_n 1, 1) := by decide +kernel
theorem dX4_hiss_60 : decode cX4_hiss 60 = .ok (.iaload, 1) := by decide +kernel
theorem dX4_hiss_61 : decode cX4_hiss 61 = .ok (.iload_n 2, 1) := by decide +kernel
theorem dX4_hiss_62 : decode cX4_hiss 62 = .ok (.if_icmp .le 14, 3) := by decide +kernel
theorem dX4_hiss_65 : decode cX4_hiss 65 = .ok (.iload_n 3, 1) := by decide +kernel
theorem dX4_hiss_66 : decode cX4_hiss 66 = .ok (.aload_n 0, 1) := by decide +kernel
theorem dX4_hiss_67 : decode cX4_hiss 67 = .ok (.getfield 7, 3) := by decide +kernel
theorem dX4_hiss_70 : decode cX4_hiss 70 = .ok (.iload_n 1, 1) := by decide +kernel
theorem dX4_hiss_71 : decode cX4_hiss 71 = .ok (.iaload, 1) := by decide +kernel
theorem dX4_hiss_72 : decode cX4_hiss 72 = .ok (.iload_n 2, 1) := by decide +kernel
theorem dX4_hiss_73 : decode cX4_hiss 73 = .ok (.isub, 1) := by decide +kernel
theorem dX4_hiss_74 : decode cX4_hiss 74 = .ok (.iadd, 1) := by decide +kernel
theorem dX4_hiss_75 : decode cX4_hiss 75 = .ok (.istore_n 3, 1) := by decide +kernel
theorem dX4_hiss_76 : decode cX4_hiss 76 = .ok (.iinc 6 1, 3) := by decide +kernel
theorem dX4_hiss_79 : decode cX4_hiss 79 = .ok (.goto (-63), 3) := by decide +kernel
theorem dX4_hiss_82 : decode cX4_hiss 82 = .ok (.iload_n 3, 1) := by decide +kernel
theorem dX4_hiss_83 : decode cX4_hiss 83 = .ok (.ireturn, 1) := by decide +kernel
theorem dX4_isIn_0 : decode cX4_isIn 0 = .ok (.aload_n 1, 1) := by decide +kernel
theorem dX4_isIn_1 : decode cX4_isIn 1 = .ok (.iconst 3, 1) := by decide +kernel
theorem dX4_isIn_2 : decode cX4_isIn 2 = .ok (.iaload, 1) := by decide +kernel
theorem dX4_isIn_3 : decode cX4_isIn 3 = .ok (.aload_n 0, 1) := by decide +kernel
theorem dX4_isIn_4 : decode cX4_isIn 4 = .ok (.getfield 7, 3) := by decide +kernel
theorem dX4_isIn_7 : decode cX4_isIn 7 = .ok (.arraylength, 1) := by decide +kernel
theorem dX4_isIn_8 : decode cX4_isIn 8 = .ok (.if_icmp .ne 7, 3) := by decide +kernel
theorem dX4_isIn_11 : decode cX4_isIn 11 = .ok (.iconst 1, 1) := by decide +kernel
theorem dX4_isIn_12 : decode cX4_isIn 12 = .ok (.goto 4, 3) := by decide +kernel
theorem dX4_isIn_15 : decode cX4_isIn 15 = .ok (.iconst 0, 1) := by decide +kernel
theorem dX4_isIn_16 : decode cX4_isIn 16 = .ok (.ireturn, 1) := by decide +kernel
set_option maxRecDepth 20000 in
theorem ggX4_hissAt_X4_isIn : GoodIn wsX4_hissAt wsX4_isIn := goodIn_r _ [5, 6, 12, 13, 14, 15, 16, 17] (by decide +kernel) (by decide +kernel)
set_option maxRecDepth 20000 in
theorem gX4_hissAt_X4_isIn : GoodIn wsX4_hissAt (wsV RX4 21 RX4 yX4_isIn wsX4_isIn) := goodIn_app (goodIn_of _ (by decide +kernel)) ggX4_hissAt_X4_isIn
set_option maxRecDepth 20000 in
theorem ggX4_hissAt_X4_hiss : GoodIn wsX4_hissAt wsX4_hiss := goodIn_r _ [10, 11, 6, 12, 13, 14, 15, 16, 17] (by decide +kernel) (by decide +kernel)
set_option maxRecDepth 20000 in
theorem gX4_hissAt_X4_hiss : GoodIn wsX4_hissAt (wsV RX4 25 RX4 yX4_hiss wsX4_hiss) := goodIn_app (goodIn_of _ (by decide +kernel)) ggX4_hissAt_X4_hiss
theorem dX4_hissAt_0 : decode cX4_hissAt 0 = .ok (.aload_n 0, 1) := by decide +kernel
theorem dX4_hissAt_1 : decode cX4_hissAt 1 = .ok (.aload_n 1, 1) := by decide +kernel
theorem dX4_hissAt_2 : decode cX4_hissAt 2 = .ok (.invokevirtual 21, 3) := by decide +kernel
theorem dX4_hissAt_5 : decode cX4_hissAt 5 = .ok (.ifCond .eq 7, 3) := by decide +kernel
theorem dX4_hissAt_8 : decode cX4_hissAt 8 = .ok (.iconst 0, 1) := by decide +kernel
theorem dX4_hissAt_9 : decode cX4_hissAt 9 = .ok (.goto 13, 3) := by decide +kernel
theorem dX4_hissAt_12 : decode cX4_hissAt 12 = .ok (.aload_n 0, 1) := by decide +kernel
theorem dX4_hissAt_13 : decode cX4_hissAt 13 = .ok (.aload_n 1, 1) := by decide +kernel
theorem dX4_hissAt_14 : decode cX4_hissAt 14 = .ok (.iconst 3, 1) := by decide +kernel
theorem dX4_hissAt_15 : decode cX4_hissAt 15 = .ok (.iaload, 1) := by decide +kernel
theorem dX4_hissAt_16 : decode cX4_hissAt 16 = .ok (.aload_n 1, 1) := by decide +kernel
theorem dX4_hissAt_17 : decode cX4_hissAt 17 = .ok (.iconst 0, 1) := by decide +kernel
theorem dX4_hissAt_18 : decode cX4_hissAt 18 = .ok (.iaload, 1) := by decide +kernel
theorem dX4_hissAt_19 : decode cX4_hissAt 19 = .ok (.invokevirtual 25, 3) := by decide +kernel
theorem dX4_hissAt_22 : decode cX4_hissAt 22 = .ok (.ireturn, 1) := by decide +kernel
theorem dX4_grade_0 : decode cX4_grade 0 = .ok (.iconst 4, 1) := by decide +kernel
theorem dX4_grade_1 : decode cX4_grade 1 = .ok (.newarray .int, 2) := by decide +kernel
theorem dX4_grade_3 : decode cX4_grade 3 = .ok (.dup, 1) := by decide +kernel
theorem dX4_grade_4 : decode cX4_grade 4 = .ok (.iconst 0, 1) := by decide +kernel
theorem dX4_grade_5 : decode cX4_grade 5 = .ok (.iconst 0, 1) := by decide +kernel
theorem dX4_grade_6 : decode cX4_grade 6 = .ok (.iastore, 1) := by decide +kernel
theorem dX4_grade_7 : decode cX4_grade 7 = .ok (.dup, 1) := by decide +kernel
theorem dX4_grade_8 : decode cX4_grade 8 = .ok (.iconst 1, 1) := by decide +kernel
theorem dX4_grade_9 : decode cX4_grade 9 = .ok (.iconst 5, 1) := by decide +kernel
theorem dX4_grade_10 : decode cX4_grade 10 = .ok (.iastore, 1) := by decide +kernel
theorem dX4_grade_11 : decode cX4_grade 11 = .ok (.dup, 1) := by decide +kernel
theorem dX4_grade_12 : decode cX4_grade 12 = .ok (.iconst 2, 1) := by decide +kernel
theorem dX4_grade_13 : decode cX4_grade 13 = .ok (.bipush 10, 2) := by decide +kernel
theorem dX4_grade_15 : decode cX4_grade 15 = .ok (.iastore, 1) := by decide +kernel
theorem dX4_grade_16 : decode cX4_grade 16 = .ok (.dup, 1) := by decide +kernel
theorem dX4_grade_17 : decode cX4_grade 17 = .ok (.iconst 3, 1) := by decide +kernel
theorem dX4_grade_18 : decode cX4_grade 18 = .ok (.bipush 20, 2) := by decide +kernel
theorem dX4_grade_20 : decode cX4_grade 20 = .ok (.iastore, 1) := by decide +kernel
theorem dX4_grade_21 : decode cX4_grade 21 = .ok (.astore_n 1, 1) := by decide +kernel
theorem dX4_grade_22 : decode cX4_grade 22 = .ok (.iconst 0, 1) := by decide +kernel
theorem dX4_grade_23 : decode cX4_grade 23 = .ok (.istore_n 2, 1) := by decide +kernel
theorem dX4_grade_24 : decode cX4_grade 24 = .ok (.aload_n 1, 1) := by decide +kernel
theorem dX4_grade_25 : decode cX4_grade 25 = .ok (.astore_n 3, 1) := by decide +kernel
theorem dX4_grade_26 : decode cX4_grade 26 = .ok (.aload_n 3, 1) := by decide +kernel
theorem dX4_grade_27 : decode cX4_grade 27 = .ok (.arraylength, 1) := by decide +kernel
theorem dX4_grade_28 : decode cX4_grade 28 = .ok (.istore 4, 2) := by decide +kernel
theorem dX4_grade_30 : decode cX4_grade 30 = .ok (.iconst 0, 1) := by decide +kernel
theorem dX4_grade_31 : decode cX4_grade 31 = .ok (.istore 5, 2) := by decide +kernel
theorem dX4_grade_33 : decode cX4_grade 33 = .ok (.iload 5, 2) := by decide +kernel
theorem dX4_grade_35 : decode cX4_grade 35 = .ok (.iload 4, 2) := by decide +kernel
theorem dX4_grade_37 : decode cX4_grade 37 = .ok (.if_icmp .ge 24, 3) := by decide +kernel
theorem dX4_grade_40 : decode cX4_grade 40 = .ok (.aload_n 3, 1) := by decide +kernel
theorem dX4_grade_41 : decode cX4_grade 41 = .ok (.iload 5, 2) := by decide +kernel
theorem dX4_grade_43 : decode cX4_grade 43 = .ok (.iaload, 1) := by decide +kernel
theorem dX4_grade_44 : decode cX4_grade 44 = .ok (.istore 6, 2) := by decide +kernel
theorem dX4_grade_46 : decode cX4_grade 46 = .ok (.iload_n 0, 1) := by decide +kernel
theorem dX4_grade_47 : decode cX4_grade 47 = .ok (.iload 6, 2) := by decide +kernel
theorem dX4_grade_49 : decode cX4_grade 49 = .ok (.if_icmp .le 6, 3) := by decide +kernel
theorem dX4_grade_52 : decode cX4_grade 52 = .ok (.iinc 2 1, 3) := by decide +kernel
theorem dX4_grade_55 : decode cX4_grade 55 = .ok (.iinc 5 1, 3) := by decide +kernel
theorem dX4_grade_58 : decode cX4_grade 58 = .ok (.goto (-25), 3) := by decide +kernel
theorem dX4_grade_61 : decode cX4_grade 61 = .ok (.iload_n 2, 1) := by decide +kernel
theorem dX4_grade_62 : decode cX4_grade 62 = .ok (.ireturn, 1) := by decide +kernel
theorem dX4_feed_0 : decode cX4_feed 0 = .ok (.aload_n 1, 1) := by decide +kernel
theorem dX4_feed_1 : decode cX4_feed 1 = .ok (.iconst 2, 1) := by decide +kernel
theorem dX4_feed_2 : decode cX4_feed 2 = .ok (.dup2, 1) := by decide +kernel
theorem dX4_feed_3 : decode cX4_feed 3 = .ok (.iaload, 1) := by decide +kernel
theorem dX4_feed_4 : decode cX4_feed 4 = .ok (.iconst 1, 1) := by decide +kernel
theorem dX4_feed_5 : decode cX4_feed 5 = .ok (.isub, 1) := by decide +kernel
theorem dX4_feed_6 : decode cX4_feed 6 = .ok (.iastore, 1) := by decide +kernel
theorem dX4_feed_7 : decode cX4_feed 7 = .ok (.aload_n 2, 1) := by decide +kernel
theorem dX4_feed_8 : decode cX4_feed 8 = .ok (.iconst 3, 1) := by decide +kernel
theorem dX4_feed_9 : decode cX4_feed 9 = .ok (.dup2, 1) := by decide +kernel
theorem dX4_feed_10 : decode cX4_feed 10 = .ok (.iaload, 1) := by decide +kernel
theorem dX4_feed_11 : decode cX4_feed 11 = .ok (.iconst 1, 1) := by decide +kernel
theorem dX4_feed_12 : decode cX4_feed 12 = .ok (.iadd, 1) := by decide +kernel
theorem dX4_feed_13 : decode cX4_feed 13 = .ok (.iastore, 1) := by decide +kernel
theorem dX4_feed_14 : decode cX4_feed 14 = .ok (.aload_n 2, 1) := by decide +kernel
theorem dX4_feed_15 : decode cX4_feed 15 = .ok (.iconst 2, 1) := by decide +kernel
theorem dX4_feed_16 : decode cX4_feed 16 = .ok (.iconst 3, 1) := by decide +kernel
theorem dX4_feed_17 : decode cX4_feed 17 = .ok (.iastore, 1) := by decide +kernel
theorem dX4_feed_18 : decode cX4_feed 18 = .ok (.aload_n 2, 1) := by decide +kernel
theorem dX4_feed_19 : decode cX4_feed 19 = .ok (.iconst 1, 1) := by decide +kernel
theorem dX4_feed_20 : decode cX4_feed 20 = .ok (.iaload, 1) := by decide +kernel
theorem dX4_feed_21 : decode cX4_feed 21 = .ok (.iconst 1, 1) := by decide +kernel
theorem dX4_feed_22 : decode cX4_feed 22 = .ok (.if_icmp .le 10, 3) := by decide +kernel
theorem dX4_feed_25 : decode cX4_feed 25 = .ok (.aload_n 2, 1) := by decide +kernel
theorem dX4_feed_26 : decode cX4_feed 26 = .ok (.iconst 1, 1) := by decide +kernel
theorem dX4_feed_27 : decode cX4_feed 27 = .ok (.dup2, 1) := by decide +kernel
theorem dX4_feed_28 : decode cX4_feed 28 = .ok (.iaload, 1) := by decide +kernel
theorem dX4_feed_29 : decode cX4_feed 29 = .ok (.iconst 1, 1) := by decide +kernel
theorem dX4_feed_30 : decode cX4_feed 30 = .ok (.isub, 1) := by decide +kernel
theorem dX4_feed_31 : decode cX4_feed 31 = .ok (.iastore, 1) := by decide +kernel
theorem dX4_feed_32 : decode cX4_feed 32 = .ok (.aload_n 0, 1) := by decide +kernel
theorem dX4_feed_33 : decode cX4_feed 33 = .ok (.dup, 1) := by decide +kernel
theorem dX4_feed_34 : decode cX4_feed 34 = .ok (.getfield 29, 3) := by decide +kernel
theorem dX4_feed_37 : decode cX4_feed 37 = .ok (.iconst 1, 1) := by decide +kernel
theorem dX4_feed_38 : decode cX4_feed 38 = .ok (.iadd, 1) := by decide +kernel
theorem dX4_feed_39 : decode cX4_feed 39 = .ok (.putfield 29, 3) := by decide +kernel
theorem dX4_feed_42 : decode cX4_feed 42 = .ok (.return_, 1) := by decide +kernel
set_option maxRecDepth 20000 in
theorem ggX4_pass_X4_isIn : GoodIn wsX4_pass wsX4_isIn := goodIn_r _ [9, 10, 28, 29, 30, 31, 32, 33] (by decide +kernel) (by decide +kernel)
set_option maxRecDepth 20000 in
theorem gX4_pass_X4_isIn : GoodIn wsX4_pass (wsV RX4 21 RX4 yX4_isIn wsX4_isIn) := goodIn_app (goodIn_of _ (by decide +kernel)) ggX4_pass_X4_isIn
set_option maxRecDepth 20000 in
theorem ggX4_pass_X4_hissAt : GoodIn wsX4_pass wsX4_hissAt := goodIn_r _ [14, 5, 6, 7, 8, 9, 10, 15, 16, 17, 18, 1, 28, 29, 30, 31, 32, 33] (by decide +kernel) (by decide +kernel)
set_option maxRecDepth 20000 in
theorem gX4_pass_X4_hissAt : GoodIn wsX4_pass (wsV RX4 33 RX4 yX4_hissAt wsX4_hissAt) := goodIn_app (goodIn_of _ (by decide +kernel)) ggX4_pass_X4_hissAt
set_option maxRecDepth 20000 in
theorem ggX4_pass_X4_feed : GoodIn wsX4_pass wsX4_feed := goodIn_r _ [22, 23, 28, 29, 30, 31, 32, 33] (by decide +kernel) (by decide +kernel)
set_option maxRecDepth 20000 in
theorem gX4_pass_X4_feed : GoodIn wsX4_pass (wsV RX4 37 RX4 yX4_feed wsX4_feed) := goodIn_app (goodIn_of _ (by decide +kernel)) ggX4_pass_X4_feed
set_option maxRecDepth 20000 in
theorem ggX4_pass_X4_grade : GoodIn wsX4_pass wsX4_grade := goodIn_r _ [26, 27] (by decide +kernel) (by decide +kernel)
set_option maxRecDepth 20000 in
theorem gX4_pass_X4_grade : GoodIn wsX4_pass (va_wsS RX4 41 yX4_grade wsX4_grade) := goodIn_app (goodIn_of _ (by decide +kernel)) ggX4_pass_X4_grade
theorem dX4_pass_0 : decode cX4_pass 0 = .ok (.aload_n 0, 1) := by decide +kernel
theorem dX4_pass_1 : decode cX4_pass 1 = .ok (.getfield 14, 3) := by decide +kernel
theorem dX4_pass_4 : decode cX4_pass 4 = .ok (.astore_n 1, 1) := by decide +kernel
theorem dX4_pass_5 : decode cX4_pass 5 = .ok (.aload_n 1, 1) := by decide +kernel
theorem dX4_pass_6 : decode cX4_pass 6 = .ok (.arraylength, 1) := by decide +kernel
theorem dX4_pass_7 : decode cX4_pass 7 = .ok (.istore_n 2, 1) := by decide +kernel
theorem dX4_pass_8 : decode cX4_pass 8 = .ok (.iconst 0, 1) := by decide +kernel
theorem dX4_pass_9 : decode cX4_pass 9 = .ok (.istore_n 3, 1) := by decide +kernel
theorem dX4_pass_10 : decode cX4_pass 10 = .ok (.iload_n 3, 1) := by decide +kernel
theorem dX4_pass_11 : decode cX4_pass 11 = .ok (.iload_n 2, 1) := by decide +kernel
theorem dX4_pass_12 : decode cX4_pass 12 = .ok (.if_icmp .ge 29, 3) := by decide +kernel
theorem dX4_pass_15 : decode cX4_pass 15 = .ok (.aload_n 1, 1) := by decide +kernel
theorem dX4_pass_16 : decode cX4_pass 16 = .ok (.iload_n 3, 1) := by decide +kernel
theorem dX4_pass_17 : decode cX4_pass 17 = .ok (.aaload, 1) := by decide +kernel
theorem dX4_pass_18 : decode cX4_pass 18 = .ok (.astore 4, 2) := by decide +kernel
theorem dX4_pass_20 : decode cX4_pass 20 = .ok (.aload 4, 2) := by decide +kernel
theorem dX4_pass_22 : decode cX4_pass 22 = .ok (.iconst 2, 1) := by decide +kernel
theorem dX4_pass_23 : decode cX4_pass 23 = .ok (.iaload, 1) := by decide +kernel
theorem dX4_pass_24 : decode cX4_pass 24 = .ok (.ifCond .le 11, 3) := by decide +kernel
theorem dX4_pass_27 : decode cX4_pass 27 = .ok (.aload 4, 2) := by decide +kernel
theorem dX4_pass_29 : decode cX4_pass 29 = .ok (.iconst 2, 1) := by decide +kernel
theorem dX4_pass_30 : decode cX4_pass 30 = .ok (.dup2, 1) := by decide +kernel
theorem dX4_pass_31 : decode cX4_pass 31 = .ok (.iaload, 1) := by decide +kernel
theorem dX4_pass_32 : decode cX4_pass 32 = .ok (.iconst 1, 1) := by decide +kernel
theorem dX4_pass_33 : decode cX4_pass 33 = .ok (.isub, 1) := by decide +kernel
theorem dX4_pass_34 : decode cX4_pass 34 = .ok (.iastore, 1) := by decide +kernel
theorem dX4_pass_35 : decode cX4_pass 35 = .ok (.iinc 3 1, 3) := by decide +kernel
theorem dX4_pass_38 : decode cX4_pass 38 = .ok (.goto (-28), 3) := by decide +kernel
theorem dX4_pass_41 : decode cX4_pass 41 = .ok (.aload_n 0, 1) := by decide +kernel
theorem dX4_pass_42 : decode cX4_pass 42 = .ok (.getfield 18, 3) := by decide +kernel
theorem dX4_pass_45 : decode cX4_pass 45 = .ok (.astore_n 1, 1) := by decide +kernel
theorem dX4_pass_46 : decode cX4_pass 46 = .ok (.aload_n 1, 1) := by decide +kernel
theorem dX4_pass_47 : decode cX4_pass 47 = .ok (.arraylength, 1) := by decide +kernel
theorem dX4_pass_48 : decode cX4_pass 48 = .ok (.istore_n 2, 1) := by decide +kernel
theorem dX4_pass_49 : decode cX4_pass 49 = .ok (.iconst 0, 1) := by decide +kernel
theorem dX4_pass_50 : decode cX4_pass 50 = .ok (.istore_n 3, 1) := by decide +kernel
theorem dX4_pass_51 : decode cX4_pass 51 = .ok (.iload_n 3, 1) := by decide +kernel
theorem dX4_pass_52 : decode cX4_pass 52 = .ok (.iload_n 2, 1) := by decide +kernel
theorem dX4_pass_53 : decode cX4_pass 53 = .ok (.if_icmp .ge 285, 3) := by decide +kernel
theorem dX4_pass_56 : decode cX4_pass 56 = .ok (.aload_n 1, 1) := by decide +kernel
theorem dX4_pass_57 : decode cX4_pass 57 = .ok (.iload_n 3, 1) := by decide +kernel
theorem dX4_pass_58 : decode cX4_pass 58 = .ok (.aaload, 1) := by decide +kernel
theorem dX4_pass_59 : decode cX4_pass 59 = .ok (.astore 4, 2) := by decide +kernel
theorem dX4_pass_61 : decode cX4_pass 61 = .ok (.aload_n 0, 1) := by decide +kernel
theorem dX4_pass_62 : decode cX4_pass 62 = .ok (.aload 4, 2) := by decide +kernel
theorem dX4_pass_64 : decode cX4_pass 64 = .ok (.invokevirtual 21, 3) := by decide +kernel
theorem dX4_pass_67 : decode cX4_pass 67 = .ok (.ifCond .eq 6, 3) := by decide +kernel
theorem dX4_pass_70 : decode cX4_pass 70 = .ok (.goto 262, 3) := by decide +kernel
theorem dX4_pass_73 : decode cX4_pass 73 = .ok (.aload 4, 2) := by decide +kernel
theorem dX4_pass_75 : decode cX4_pass 75 = .ok (.iconst 4, 1) := by decide +kernel
theorem dX4_pass_76 : decode cX4_pass 76 = .ok (.iaload, 1) := by decide +kernel
theorem dX4_pass_77 : decode cX4_pass 77 = .ok (.ifCond .le 14, 3) := by decide +kernel
theorem dX4_pass_80 : decode cX4_pass 80 = .ok (.aload 4, 2) := by decide +kernel
theorem dX4_pass_82 : decode cX4_pass 82 = .ok (.iconst 4, 1) := by decide +kernel
theorem dX4_pass_83 : decode cX4_pass 83 = .ok (.dup2, 1) := by decide +kernel
theorem dX4_pass_84 : decode cX4_pass 84 = .ok (.iaload, 1) := by decide +kernel
theorem dX4_pass_85 : decode cX4_pass 85 = .ok (.iconst 1, 1) := by decide +kernel
theorem dX4_pass_86 : decode cX4_pass 86 = .ok (.isub, 1) := by decide +kernel
theorem dX4_pass_87 : decode cX4_pass 87 = .ok (.iastore, 1) := by decide +kernel
theorem dX4_pass_88 : decode cX4_pass 88 = .ok (.goto 244, 3) := by decide +kernel
theorem dX4_pass_91 : decode cX4_pass 91 = .ok (.aload_n 0, 1) := by decide +kernel
theorem dX4_pass_92 : decode cX4_pass 92 = .ok (.aload 4, 2) := by decide +kernel
theorem dX4_pass_94 : decode cX4_pass 94 = .ok (.invokevirtual 33, 3) := by decide +kernel
theorem dX4_pass_97 : decode cX4_pass 97 = .ok (.istore 5, 2) := by decide +kernel
theorem dX4_pass_99 : decode cX4_pass 99 = .ok (.aconst_null, 1) := by decide +kernel
theorem dX4_pass_100 : decode cX4_pass 100 = .ok (.astore 6, 2) := by decide +kernel
theorem dX4_pass_102 : decode cX4_pass 102 = .ok (.aload_n 0, 1) := by decide +kernel
theorem dX4_pass_103 : decode cX4_pass 103 = .ok (.getfield 14, 3) := by decide +kernel
theorem dX4_pass_106 : decode cX4_pass 106 = .ok (.astore 7, 2) := by decide +kernel
theorem dX4_pass_108 : decode cX4_pass 108 = .ok (.aload 7, 2) := by decide +kernel
theorem dX4_pass_110 : decode cX4_pass 110 = .ok (.arraylength, 1) := by decide +kernel
theorem dX4_pass_111 : decode cX4_pass 111 = .ok (.istore 8, 2) := by decide +kernel
theorem dX4_pass_113 : decode cX4_pass 113 = .ok (.iconst 0, 1) := by decide +kernel
theorem dX4_pass_114 : decode cX4_pass 114 = .ok (.istore 9, 2) := by decide +kernel
theorem dX4_pass_116 : decode cX4_pass 116 = .ok (.iload 9, 2) := by decide +kernel
theorem dX4_pass_118 : decode cX4_pass 118 = .ok (.iload 8, 2) := by decide +kernel
theorem dX4_pass_120 : decode cX4_pass 120 = .ok (.if_icmp .ge 54, 3) := by decide +kernel
theorem dX4_pass_123 : decode cX4_pass 123 = .ok (.aload 7, 2) := by decide +kernel
theorem dX4_pass_125 : decode cX4_pass 125 = .ok (.iload 9, 2) := by decide +kernel
theorem dX4_pass_127 : decode cX4_pass 127 = .ok (.aaload, 1) := by decide +kernel
theorem dX4_pass_128 : decode cX4_pass 128 = .ok (.astore 10, 2) := by decide +kernel
theorem dX4_pass_130 : decode cX4_pass 130 = .ok (.aload 10, 2) := by decide +kernel
theorem dX4_pass_132 : decode cX4_pass 132 = .ok (.iconst 0, 1) := by decide +kernel
theorem dX4_pass_133 : decode cX4_pass 133 = .ok (.iaload, 1) := by decide +kernel
theorem dX4_pass_134 : decode cX4_pass 134 = .ok (.aload 4, 2) := by decide +kernel
theorem dX4_pass_136 : decode cX4_pass 136 = .ok (.iconst 3, 1) := by decide +kernel
theorem dX4_pass_137 : decode cX4_pass 137 = .ok (.iaload, 1) := by decide +kernel
theorem dX4_pass_138 : decode cX4_pass 138 = .ok (.if_icmp .ne 30, 3) := by decide +kernel
theorem dX4_pass_141 : decode cX4_pass 141 = .ok (.aload 10, 2) := by decide +kernel
theorem dX4_pass_143 : decode cX4_pass 143 = .ok (.iconst 2, 1) := by decide +kernel
theorem dX4_pass_144 : decode cX4_pass 144 = .ok (.iaload, 1) := by decide +kernel
theorem dX4_pass_145 : decode cX4_pass 145 = .ok (.ifCond .ne 23, 3) := by decide +kernel
theorem dX4_pass_148 : decode cX4_pass 148 = .ok (.aload 6, 2) := by decide +kernel
theorem dX4_pass_150 : decode cX4_pass 150 = .ok (.ifnull 14, 3) := by decide +kernel
theorem dX4_pass_153 : decode cX4_pass 153 = .ok (.aload 10, 2) := by decide +kernel
theorem dX4_pass_155 : decode cX4_pass 155 = .ok (.iconst 1, 1) := by decide +kernel
theorem dX4_pass_156 : decode cX4_pass 156 = .ok (.iaload, 1) := by decide +kernel
theorem dX4_pass_157 : decode cX4_pass 157 = .ok (.aload 6, 2) := by decide +kernel
theorem dX4_pass_159 : decode cX4_pass 159 = .ok (.iconst 1, 1) := by decide +kernel
theorem dX4_pass_160 : decode cX4_pass 160 = .ok (.iaload, 1) := by decide +kernel
theorem dX4_pass_161 : decode cX4_pass 161 = .ok (.if_icmp .le 7, 3) := by decide +kernel
theorem dX4_pass_164 : decode cX4_pass 164 = .ok (.aload 10, 2) := by decide +kernel
theorem dX4_pass_166 : decode cX4_pass 166 = .ok (.astore 6, 2) := by decide +kernel
theorem dX4_pass_168 : decode cX4_pass 168 = .ok (.iinc 9 1, 3) := by decide +kernel
theorem dX4_pass_171 : decode cX4_pass 171 = .ok (.goto (-55), 3) := by decide +kernel
theorem dX4_pass_174 : decode cX4_pass 174 = .ok (.iload 5, 2) := by decide +kernel
theorem dX4_pass_176 : decode cX4_pass 176 = .ok (.aload 4, 2) := by decide +kernel
theorem dX4_pass_178 : decode cX4_pass 178 = .ok (.iconst 1, 1) := by decide +kernel
theorem dX4_pass_179 : decode cX4_pass 179 = .ok (.iaload, 1) := by decide +kernel
theorem dX4_pass_180 : decode cX4_pass 180 = .ok (.if_icmp .gt 83, 3) := by decide +kernel
theorem dX4_pass_183 : decode cX4_pass 183 = .ok (.aload_n 0, 1) := by decide +kernel
theorem dX4_pass_184 : decode cX4_pass 184 = .ok (.getfield 14, 3) := by decide +kernel
theorem dX4_pass_187 : decode cX4_pass 187 = .ok (.astore 7, 2) := by decide +kernel
theorem dX4_pass_189 : decode cX4_pass 189 = .ok (.aload 7, 2) := by decide +kernel
theorem dX4_pass_191 : decode cX4_pass 191 = .ok (.arraylength, 1) := by decide +kernel
theorem dX4_pass_192 : decode cX4_pass 192 = .ok (.istore 8, 2) := by decide +kernel
theorem dX4_pass_194 : decode cX4_pass 194 = .ok (.iconst 0, 1) := by decide +kernel
theorem dX4_pass_195 : decode cX4_pass 195 = .ok (.istore 9, 2) := by decide +kernel
theorem dX4_pass_197 : decode cX4_pass 197 = .ok (.iload 9, 2) := by decide +kernel
theorem dX4_pass_199 : decode cX4_pass 199 = .ok (.iload 8, 2) := by decide +kernel
theorem dX4_pass_201 : decode cX4_pass 201 = .ok (.if_icmp .ge 51, 3) := by decide +kernel
theorem dX4_pass_204 : decode cX4_pass 204 = .ok (.aload 7, 2) := by decide +kernel
theorem dX4_pass_206 : decode cX4_pass 206 = .ok (.iload 9, 2) := by decide +kernel
theorem dX4_pass_208 : decode cX4_pass 208 = .ok (.aaload, 1) := by decide +kernel
theorem dX4_pass_209 : decode cX4_pass 209 = .ok (.astore 10, 2) := by decide +kernel
theorem dX4_pass_211 : decode cX4_pass 211 = .ok (.aload 10, 2) := by decide +kernel
theorem dX4_pass_213 : decode cX4_pass 213 = .ok (.iconst 0, 1) := by decide +kernel
theorem dX4_pass_214 : decode cX4_pass 214 = .ok (.iaload, 1) := by decide +kernel
theorem dX4_pass_215 : decode cX4_pass 215 = .ok (.aload 4, 2) := by decide +kernel
theorem dX4_pass_217 : decode cX4_pass 217 = .ok (.iconst 3, 1) := by decide +kernel
theorem dX4_pass_218 : decode cX4_pass 218 = .ok (.iaload, 1) := by decide +kernel
theorem dX4_pass_219 : decode cX4_pass 219 = .ok (.if_icmp .ne 27, 3) := by decide +kernel
theorem dX4_pass_222 : decode cX4_pass 222 = .ok (.aload 10, 2) := by decide +kernel
theorem dX4_pass_224 : decode cX4_pass 224 = .ok (.iconst 2, 1) := by decide +kernel
theorem dX4_pass_225 : decode cX4_pass 225 = .ok (.iaload, 1) := by decide +kernel
theorem dX4_pass_226 : decode cX4_pass 226 = .ok (.ifCond .ne 20, 3) := by decide +kernel
theorem dX4_pass_229 : decode cX4_pass 229 = .ok (.aload 10, 2) := by decide +kernel
theorem dX4_pass_231 : decode cX4_pass 231 = .ok (.iconst 1, 1) := by decide +kernel
theorem dX4_pass_232 : decode cX4_pass 232 = .ok (.iaload, 1) := by decide +kernel
theorem dX4_pass_233 : decode cX4_pass 233 = .ok (.bipush 9, 2) := by decide +kernel
theorem dX4_pass_235 : decode cX4_pass 235 = .ok (.if_icmp .ge 11, 3) := by decide +kernel
theorem dX4_pass_238 : decode cX4_pass 238 = .ok (.aload 10, 2) := by decide +kernel
theorem dX4_pass_240 : decode cX4_pass 240 = .ok (.iconst 1, 1) := by decide +kernel
theorem dX4_pass_241 : decode cX4_pass 241 = .ok (.dup2, 1) := by decide +kernel
theorem dX4_pass_242 : decode cX4_pass 242 = .ok (.iaload, 1) := by decide +kernel
theorem dX4_pass_243 : decode cX4_pass 243 = .ok (.iconst 1, 1) := by decide +kernel
theorem dX4_pass_244 : decode cX4_pass 244 = .ok (.iadd, 1) := by decide +kernel
theorem dX4_pass_245 : decode cX4_pass 245 = .ok (.iastore, 1) := by decide +kernel
theorem dX4_pass_246 : decode cX4_pass 246 = .ok (.iinc 9 1, 3) := by decide +kernel
theorem dX4_pass_249 : decode cX4_pass 249 = .ok (.goto (-52), 3) := by decide +kernel
theorem dX4_pass_252 : decode cX4_pass 252 = .ok (.aload 4, 2) := by decide +kernel
theorem dX4_pass_254 : decode cX4_pass 254 = .ok (.iconst 3, 1) := by decide +kernel
theorem dX4_pass_255 : decode cX4_pass 255 = .ok (.dup2, 1) := by decide +kernel
theorem dX4_pass_256 : decode cX4_pass 256 = .ok (.iaload, 1) := by decide +kernel
theorem dX4_pass_257 : decode cX4_pass 257 = .ok (.iconst 1, 1) := by decide +kernel
theorem dX4_pass_258 : decode cX4_pass 258 = .ok (.iadd, 1) := by decide +kernel
theorem dX4_pass_259 : decode cX4_pass 259 = .ok (.iastore, 1) := by decide +kernel
theorem dX4_pass_260 : decode cX4_pass 260 = .ok (.goto 72, 3) := by decide +kernel
theorem dX4_pass_263 : decode cX4_pass 263 = .ok (.aload 4, 2) := by decide +kernel
theorem dX4_pass_265 : decode cX4_pass 265 = .ok (.iconst 2, 1) := by decide +kernel
theorem dX4_pass_266 : decode cX4_pass 266 = .ok (.iaload, 1) := by decide +kernel
theorem dX4_pass_267 : decode cX4_pass 267 = .ok (.ifCond .le 14, 3) := by decide +kernel
theorem dX4_pass_270 : decode cX4_pass 270 = .ok (.aload_n 0, 1) := by decide +kernel
theorem dX4_pass_271 : decode cX4_pass 271 = .ok (.aload 4, 2) := by decide +kernel
theorem dX4_pass_273 : decode cX4_pass 273 = .ok (.aload 6, 2) := by decide +kernel
theorem dX4_pass_275 : decode cX4_pass 275 = .ok (.invokevirtual 37, 3) := by decide +kernel
theorem dX4_pass_278 : decode cX4_pass 278 = .ok (.goto 54, 3) := by decide +kernel
theorem dX4_pass_281 : decode cX4_pass 281 = .ok (.aload 4, 2) := by decide +kernel
theorem dX4_pass_283 : decode cX4_pass 283 = .ok (.iconst 4, 1) := by decide +kernel
theorem dX4_pass_284 : decode cX4_pass 284 = .ok (.iload 5, 2) := by decide +kernel
theorem dX4_pass_286 : decode cX4_pass 286 = .ok (.invokestatic 41, 3) := by decide +kernel
theorem dX4_pass_289 : decode cX4_pass 289 = .ok (.iastore, 1) := by decide +kernel
theorem dX4_pass_290 : decode cX4_pass 290 = .ok (.aload 4, 2) := by decide +kernel
theorem dX4_pass_292 : decode cX4_pass 292 = .ok (.iconst 1, 1) := by decide +kernel
theorem dX4_pass_293 : decode cX4_pass 293 = .ok (.iaload, 1) := by decide +kernel
theorem dX4_pass_294 : decode cX4_pass 294 = .ok (.bipush 20, 2) := by decide +kernel
theorem dX4_pass_296 : decode cX4_pass 296 = .ok (.if_icmp .ge 11, 3) := by decide +kernel
theorem dX4_pass_299 : decode cX4_pass 299 = .ok (.aload 4, 2) := by decide +kernel
theorem dX4_pass_301 : decode cX4_pass 301 = .ok (.iconst 1, 1) := by decide +kernel
theorem dX4_pass_302 : decode cX4_pass 302 = .ok (.dup2, 1) := by decide +kernel
theorem dX4_pass_303 : decode cX4_pass 303 = .ok (.iaload, 1) := by decide +kernel
theorem dX4_pass_304 : decode cX4_pass 304 = .ok (.iconst 1, 1) := by decide +kernel
theorem dX4_pass_305 : decode cX4_pass 305 = .ok (.iadd, 1) := by decide +kernel
theorem dX4_pass_306 : decode cX4_pass 306 = .ok (.iastore, 1) := by decide +kernel
theorem dX4_pass_307 : decode cX4_pass 307 = .ok (.aload 4, 2) := by decide +kernel
theorem dX4_pass_309 : decode cX4_pass 309 = .ok (.iconst 3, 1) := by decide +kernel
theorem dX4_pass_310 : decode cX4_pass 310 = .ok (.iaload, 1) := by decide +kernel
theorem dX4_pass_311 : decode cX4_pass 311 = .ok (.ifCond .le 11, 3) := by decide +kernel
theorem dX4_pass_314 : decode cX4_pass 314 = .ok (.aload 4, 2) := by decide +kernel
theorem dX4_pass_316 : decode cX4_pass 316 = .ok (.iconst 3, 1) := by decide +kernel
theorem dX4_pass_317 : decode cX4_pass 317 = .ok (.dup2, 1) := by decide +kernel
theorem dX4_pass_318 : decode cX4_pass 318 = .ok (.iaload, 1) := by decide +kernel
theorem dX4_pass_319 : decode cX4_pass 319 = .ok (.iconst 1, 1) := by decide +kernel
theorem dX4_pass_320 : decode cX4_pass 320 = .ok (.isub, 1) := by decide +kernel
theorem dX4_pass_321 : decode cX4_pass 321 = .ok (.iastore, 1) := by decide +kernel
theorem dX4_pass_322 : decode cX4_pass 322 = .ok (.aload_n 0, 1) := by decide +kernel
theorem dX4_pass_323 : decode cX4_pass 323 = .ok (.dup, 1) := by decide +kernel
theorem dX4_pass_324 : decode cX4_pass 324 = .ok (.getfield 45, 3) := by decide +kernel
theorem dX4_pass_327 : decode cX4_pass 327 = .ok (.iconst 1, 1) := by decide +kernel
theorem dX4_pass_328 : decode cX4_pass 328 = .ok (.iadd, 1) := by decide +kernel
theorem dX4_pass_329 : decode cX4_pass 329 = .ok (.putfield 45, 3) := by decide +kernel
theorem dX4_pass_332 : decode cX4_pass 332 = .ok (.iinc 3 1, 3) := by decide +kernel
theorem dX4_pass_335 : decode cX4_pass 335 = .ok (.goto (-284), 3) := by decide +kernel
theorem dX4_pass_338 : decode cX4_pass 338 = .ok (.aload_n 0, 1) := by decide +kernel
theorem dX4_pass_339 : decode cX4_pass 339 = .ok (.dup, 1) := by decide +kernel
theorem dX4_pass_340 : decode cX4_pass 340 = .ok (.getfield 48, 3) := by decide +kernel
theorem dX4_pass_343 : decode cX4_pass 343 = .ok (.iconst 1, 1) := by decide +kernel
theorem dX4_pass_344 : decode cX4_pass 344 = .ok (.iadd, 1) := by decide +kernel
theorem dX4_pass_345 : decode cX4_pass 345 = .ok (.putfield 48, 3) := by decide +kernel
theorem dX4_pass_348 : decode cX4_pass 348 = .ok (.return_, 1) := by decide +kernel
set_option maxRecDepth 20000 in
theorem ggX4_inFarm_X4_isIn : GoodIn wsX4_inFarm wsX4_isIn := goodIn_r _ [6, 7, 8, 9, 10, 11, 12, 13] (by decide +kernel) (by decide +kernel)
set_option maxRecDepth 20000 in
theorem gX4_inFarm_X4_isIn : GoodIn wsX4_inFarm (wsV RX4 21 RX4 yX4_isIn wsX4_isIn) := goodIn_app (goodIn_of _ (by decide +kernel)) ggX4_inFarm_X4_isIn
theorem dX4_inFarm_0 : decode cX4_inFarm 0 = .ok (.iconst 0, 1) := by decide +kernel
theorem dX4_inFarm_1 : decode cX4_inFarm 1 = .ok (.istore_n 1, 1) := by decide +kernel
theorem dX4_inFarm_2 : decode cX4_inFarm 2 = .ok (.aload_n 0, 1) := by decide +kernel
theorem dX4_inFarm_3 : decode cX4_inFarm 3 = .ok (.getfield 18, 3) := by decide +kernel
theorem dX4_inFarm_6 : decode cX4_inFarm 6 = .ok (.astore_n 2, 1) := by decide +kernel
theorem dX4_inFarm_7 : decode cX4_inFarm 7 = .ok (.aload_n 2, 1) := by decide +kernel
theorem dX4_inFarm_8 : decode cX4_inFarm 8 = .ok (.arraylength, 1) := by decide +kernel
theorem dX4_inFarm_9 : decode cX4_inFarm 9 = .ok (.istore_n 3, 1) := by decide +kernel
theorem dX4_inFarm_10 : decode cX4_inFarm 10 = .ok (.iconst 0, 1) := by decide +kernel
