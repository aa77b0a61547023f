theorem dX2_init_0 : decode cX2_init 0 = .ok (.aload_n 0, 1) := by decide +kernel
theorem dX2_init_1 : decode cX2_init 1 = .ok (.invokespecial 3, 3) := by decide +kernel
theorem dX2_init_4 : decode cX2_init 4 = .ok (.aload_n 0, 1) := by decide +kernel
theorem dX2_init_5 : decode cX2_init 5 = .ok (.aload_n 1, 1) := by decide +kernel
theorem dX2_init_6 : decode cX2_init 6 = .ok (.putfield 9, 3) := by decide +kernel
theorem dX2_init_9 : decode cX2_init 9 = .ok (.aload_n 0, 1) := by decide +kernel
theorem dX2_init_10 : decode cX2_init 10 = .ok (.aload_n 2, 1) := by decide +kernel
theorem dX2_init_11 : decode cX2_init 11 = .ok (.putfield 15, 3) := by decide +kernel
theorem dX2_init_14 : decode cX2_init 14 = .ok (.aload_n 0, 1) := by decide +kernel
theorem dX2_init_15 : decode cX2_init 15 = .ok (.bipush 7, 2) := by decide +kernel
theorem dX2_init_17 : decode cX2_init 17 = .ok (.newarray .int, 2) := by decide +kernel
theorem dX2_init_19 : decode cX2_init 19 = .ok (.putfield 19, 3) := by decide +kernel
theorem dX2_init_22 : decode cX2_init 22 = .ok (.return_, 1) := by decide +kernel
set_option maxRecDepth 20000 in
theorem ggX2_findLeast_X1_leastTotal : GoodIn wsX2_findLeast wsX1_leastTotal := goodIn_r _ [15, 16, 17, 18, 19, 20, 21, 22, 23, 24, 25, 14, 26, 27, 28, 29, 30, 31, 32, 33, 34, 35, 36, 37, 38, 39, 40, 9, 41, 42, 43, 44, 45, 46, 47, 66, 67, 68, 69, 62, 63, 64, 65] (by decide +kernel) (by decide +kernel)
set_option maxRecDepth 20000 in
theorem gX2_findLeast_X1_leastTotal : GoodIn wsX2_findLeast (wsV RX2 29 RX1 yX1_leastTotal wsX1_leastTotal) := goodIn_app (goodIn_of _ (by decide +kernel)) ggX2_findLeast_X1_leastTotal
set_option maxRecDepth 20000 in
theorem ggX2_findLeast_X4_allWorkersBut : GoodIn wsX2_findLeast wsX4_allWorkersBut := goodIn_r _ [51, 52, 18, 19, 20, 21, 22, 62, 63, 64, 65] (by decide +kernel) (by decide +kernel)
set_option maxRecDepth 20000 in
theorem gX2_findLeast_X4_allWorkersBut : GoodIn wsX2_findLeast (wsV RX2 38 RX4 yX4_allWorkersBut wsX4_allWorkersBut) := goodIn_app (goodIn_of _ (by decide +kernel)) ggX2_findLeast_X4_allWorkersBut
set_option maxRecDepth 20000 in
theorem ggX2_findLeast_X1_leastTotalOf : GoodIn wsX2_findLeast wsX1_leastTotalOf := goodIn_r _ [26, 27, 28, 29, 30, 14, 31, 16, 32, 33, 34, 35, 36, 37, 38, 39, 40, 9, 41, 42, 43, 44, 45, 46, 47, 66, 67, 68, 69, 62, 63, 64, 65] (by decide +kernel) (by decide +kernel)
set_option maxRecDepth 20000 in
theorem gX2_findLeast_X1_leastTotalOf : GoodIn wsX2_findLeast (wsV RX2 42 RX1 yX1_leastTotalOf wsX1_leastTotalOf) := goodIn_app (goodIn_of _ (by decide +kernel)) ggX2_findLeast_X1_leastTotalOf
set_option maxRecDepth 20000 in
theorem ggX2_findLeast_X4_isBarred : GoodIn wsX2_findLeast wsX4_isBarred := goodIn_r _ [57, 58, 62, 63, 64, 65] (by decide +kernel) (by decide +kernel)
set_option maxRecDepth 20000 in
theorem gX2_findLeast_X4_isBarred : GoodIn wsX2_findLeast (wsV RX2 45 RX4 yX4_isBarred wsX4_isBarred) := goodIn_app (goodIn_of _ (by decide +kernel)) ggX2_findLeast_X4_isBarred
theorem dX2_findLeast_0 : decode cX2_findLeast 0 = .ok (.iconst 0, 1) := by decide +kernel
theorem dX2_findLeast_1 : decode cX2_findLeast 1 = .ok (.istore_n 1, 1) := by decide +kernel
theorem dX2_findLeast_2 : decode cX2_findLeast 2 = .ok (.iload_n 1, 1) := by decide +kernel
theorem dX2_findLeast_3 : decode cX2_findLeast 3 = .ok (.aload_n 0, 1) := by decide +kernel
theorem dX2_findLeast_4 : decode cX2_findLeast 4 = .ok (.getfield 9, 3) := by decide +kernel
theorem dX2_findLeast_7 : decode cX2_findLeast 7 = .ok (.getfield 23, 3) := by decide +kernel
theorem dX2_findLeast_10 : decode cX2_findLeast 10 = .ok (.if_icmp .ge 16, 3) := by decide +kernel
theorem dX2_findLeast_13 : decode cX2_findLeast 13 = .ok (.aload_n 0, 1) := by decide +kernel
theorem dX2_findLeast_14 : decode cX2_findLeast 14 = .ok (.getfield 19, 3) := by decide +kernel
theorem dX2_findLeast_17 : decode cX2_findLeast 17 = .ok (.iload_n 1, 1) := by decide +kernel
theorem dX2_findLeast_18 : decode cX2_findLeast 18 = .ok (.iconst 0, 1) := by decide +kernel
theorem dX2_findLeast_19 : decode cX2_findLeast 19 = .ok (.iastore, 1) := by decide +kernel
theorem dX2_findLeast_20 : decode cX2_findLeast 20 = .ok (.iinc 1 1, 3) := by decide +kernel
theorem dX2_findLeast_23 : decode cX2_findLeast 23 = .ok (.goto (-21), 3) := by decide +kernel
theorem dX2_findLeast_26 : decode cX2_findLeast 26 = .ok (.aload_n 0, 1) := by decide +kernel
theorem dX2_findLeast_27 : decode cX2_findLeast 27 = .ok (.getfield 15, 3) := by decide +kernel
theorem dX2_findLeast_30 : decode cX2_findLeast 30 = .ok (.invokevirtual 29, 3) := by decide +kernel
theorem dX2_findLeast_33 : decode cX2_findLeast 33 = .ok (.istore_n 1, 1) := by decide +kernel
theorem dX2_findLeast_34 : decode cX2_findLeast 34 = .ok (.iconst 0, 1) := by decide +kernel
theorem dX2_findLeast_35 : decode cX2_findLeast 35 = .ok (.istore_n 2, 1) := by decide +kernel
theorem dX2_findLeast_36 : decode cX2_findLeast 36 = .ok (.iload_n 2, 1) := by decide +kernel
theorem dX2_findLeast_37 : decode cX2_findLeast 37 = .ok (.aload_n 0, 1) := by decide +kernel
theorem dX2_findLeast_38 : decode cX2_findLeast 38 = .ok (.getfield 9, 3) := by decide +kernel
theorem dX2_findLeast_41 : decode cX2_findLeast 41 = .ok (.getfield 35, 3) := by decide +kernel
theorem dX2_findLeast_44 : decode cX2_findLeast 44 = .ok (.if_icmp .ge 92, 3) := by decide +kernel
theorem dX2_findLeast_47 : decode cX2_findLeast 47 = .ok (.iload_n 1, 1) := by decide +kernel
theorem dX2_findLeast_48 : decode cX2_findLeast 48 = .ok (.aload_n 0, 1) := by decide +kernel
theorem dX2_findLeast_49 : decode cX2_findLeast 49 = .ok (.getfield 15, 3) := by decide +kernel
theorem dX2_findLeast_52 : decode cX2_findLeast 52 = .ok (.aload_n 0, 1) := by decide +kernel
theorem dX2_findLeast_53 : decode cX2_findLeast 53 = .ok (.getfield 9, 3) := by decide +kernel
theorem dX2_findLeast_56 : decode cX2_findLeast 56 = .ok (.iload_n 2, 1) := by decide +kernel
theorem dX2_findLeast_57 : decode cX2_findLeast 57 = .ok (.invokevirtual 38, 3) := by decide +kernel
theorem dX2_findLeast_60 : decode cX2_findLeast 60 = .ok (.invokevirtual 42, 3) := by decide +kernel
theorem dX2_findLeast_63 : decode cX2_findLeast 63 = .ok (.isub, 1) := by decide +kernel
theorem dX2_findLeast_64 : decode cX2_findLeast 64 = .ok (.istore_n 3, 1) := by decide +kernel
theorem dX2_findLeast_65 : decode cX2_findLeast 65 = .ok (.iconst 0, 1) := by decide +kernel
theorem dX2_findLeast_66 : decode cX2_findLeast 66 = .ok (.istore 4, 2) := by decide +kernel
theorem dX2_findLeast_68 : decode cX2_findLeast 68 = .ok (.iload 4, 2) := by decide +kernel
theorem dX2_findLeast_70 : decode cX2_findLeast 70 = .ok (.aload_n 0, 1) := by decide +kernel
theorem dX2_findLeast_71 : decode cX2_findLeast 71 = .ok (.getfield 9, 3) := by decide +kernel
theorem dX2_findLeast_74 : decode cX2_findLeast 74 = .ok (.getfield 23, 3) := by decide +kernel
theorem dX2_findLeast_77 : decode cX2_findLeast 77 = .ok (.if_icmp .ge 53, 3) := by decide +kernel
theorem dX2_findLeast_80 : decode cX2_findLeast 80 = .ok (.aload_n 0, 1) := by decide +kernel
theorem dX2_findLeast_81 : decode cX2_findLeast 81 = .ok (.getfield 9, 3) := by decide +kernel
theorem dX2_findLeast_84 : decode cX2_findLeast 84 = .ok (.iload_n 2, 1) := by decide +kernel
theorem dX2_findLeast_85 : decode cX2_findLeast 85 = .ok (.iload 4, 2) := by decide +kernel
theorem dX2_findLeast_87 : decode cX2_findLeast 87 = .ok (.invokevirtual 45, 3) := by decide +kernel
theorem dX2_findLeast_90 : decode cX2_findLeast 90 = .ok (.ifCond .ne 34, 3) := by decide +kernel
theorem dX2_findLeast_93 : decode cX2_findLeast 93 = .ok (.aload_n 0, 1) := by decide +kernel
theorem dX2_findLeast_94 : decode cX2_findLeast 94 = .ok (.getfield 19, 3) := by decide +kernel
theorem dX2_findLeast_97 : decode cX2_findLeast 97 = .ok (.iload 4, 2) := by decide +kernel
theorem dX2_findLeast_99 : decode cX2_findLeast 99 = .ok (.aload_n 0, 1) := by decide +kernel
theorem dX2_findLeast_100 : decode cX2_findLeast 100 = .ok (.getfield 19, 3) := by decide +kernel
theorem dX2_findLeast_103 : decode cX2_findLeast 103 = .ok (.iload 4, 2) := by decide +kernel
theorem dX2_findLeast_105 : decode cX2_findLeast 105 = .ok (.iaload, 1) := by decide +kernel
theorem dX2_findLeast_106 : decode cX2_findLeast 106 = .ok (.iload_n 3, 1) := by decide +kernel
theorem dX2_findLeast_107 : decode cX2_findLeast 107 = .ok (.aload_n 0, 1) := by decide +kernel
theorem dX2_findLeast_108 : decode cX2_findLeast 108 = .ok (.getfield 9, 3) := by decide +kernel
theorem dX2_findLeast_111 : decode cX2_findLeast 111 = .ok (.getfield 49, 3) := by decide +kernel
theorem dX2_findLeast_114 : decode cX2_findLeast 114 = .ok (.iload_n 2, 1) := by decide +kernel
theorem dX2_findLeast_115 : decode cX2_findLeast 115 = .ok (.aaload, 1) := by decide +kernel
theorem dX2_findLeast_116 : decode cX2_findLeast 116 = .ok (.iload 4, 2) := by decide +kernel
theorem dX2_findLeast_118 : decode cX2_findLeast 118 = .ok (.iaload, 1) := by decide +kernel
theorem dX2_findLeast_119 : decode cX2_findLeast 119 = .ok (.isub, 1) := by decide +kernel
theorem dX2_findLeast_120 : decode cX2_findLeast 120 = .ok (.invokestatic 53, 3) := by decide +kernel
theorem dX2_findLeast_123 : decode cX2_findLeast 123 = .ok (.iastore, 1) := by decide +kernel
theorem dX2_findLeast_124 : decode cX2_findLeast 124 = .ok (.iinc 4 1, 3) := by decide +kernel
theorem dX2_findLeast_127 : decode cX2_findLeast 127 = .ok (.goto (-59), 3) := by decide +kernel
theorem dX2_findLeast_130 : decode cX2_findLeast 130 = .ok (.iinc 2 1, 3) := by decide +kernel
theorem dX2_findLeast_133 : decode cX2_findLeast 133 = .ok (.goto (-97), 3) := by decide +kernel
theorem dX2_findLeast_136 : decode cX2_findLeast 136 = .ok (.return_, 1) := by decide +kernel
set_option maxRecDepth 20000 in
theorem ggX2_greatestOf_X1_lossWithoutTask : GoodIn wsX2_greatestOf wsX1_lossWithoutTask := goodIn_r _ [6, 7, 8, 9, 10, 11, 12, 13, 14, 15, 16, 17, 5, 18, 19, 20, 21, 22, 23, 24, 25, 26, 27, 28, 29, 30, 31, 32, 33, 34, 35, 39, 40, 41, 42, 43, 44, 45, 46] (by decide +kernel) (by decide +kernel)
set_option maxRecDepth 20000 in
theorem gX2_greatestOf_X1_lossWithoutTask : GoodIn wsX2_greatestOf (wsV RX2 59 RX1 yX1_lossWithoutTask wsX1_lossWithoutTask) := goodIn_app (goodIn_of _ (by decide +kernel)) ggX2_greatestOf_X1_lossWithoutTask
theorem dX2_greatestOf_0 : decode cX2_greatestOf 0 = .ok (.aload_n 0, 1) := by decide +kernel
theorem dX2_greatestOf_1 : decode cX2_greatestOf 1 = .ok (.getfield 15, 3) := by decide +kernel
theorem dX2_greatestOf_4 : decode cX2_greatestOf 4 = .ok (.iload_n 1, 1) := by decide +kernel
theorem dX2_greatestOf_5 : decode cX2_greatestOf 5 = .ok (.invokevirtual 59, 3) := by decide +kernel
theorem dX2_greatestOf_8 : decode cX2_greatestOf 8 = .ok (.ireturn, 1) := by decide +kernel
theorem dX2_sumOfLeast_0 : decode cX2_sumOfLeast 0 = .ok (.iconst 0, 1) := by decide +kernel
theorem dX2_sumOfLeast_1 : decode cX2_sumOfLeast 1 = .ok (.istore_n 1, 1) := by decide +kernel
theorem dX2_sumOfLeast_2 : decode cX2_sumOfLeast 2 = .ok (.iconst 0, 1) := by decide +kernel
theorem dX2_sumOfLeast_3 : decode cX2_sumOfLeast 3 = .ok (.istore_n 2, 1) := by decide +kernel
theorem dX2_sumOfLeast_4 : decode cX2_sumOfLeast 4 = .ok (.iload_n 2, 1) := by decide +kernel
theorem dX2_sumOfLeast_5 : decode cX2_sumOfLeast 5 = .ok (.aload_n 0, 1) := by decide +kernel
theorem dX2_sumOfLeast_6 : decode cX2_sumOfLeast 6 = .ok (.getfield 9, 3) := by decide +kernel
theorem dX2_sumOfLeast_9 : decode cX2_sumOfLeast 9 = .ok (.getfield 23, 3) := by decide +kernel
theorem dX2_sumOfLeast_12 : decode cX2_sumOfLeast 12 = .ok (.if_icmp .ge 18, 3) := by decide +kernel
theorem dX2_sumOfLeast_15 : decode cX2_sumOfLeast 15 = .ok (.iload_n 1, 1) := by decide +kernel
theorem dX2_sumOfLeast_16 : decode cX2_sumOfLeast 16 = .ok (.aload_n 0, 1) := by decide +kernel
theorem dX2_sumOfLeast_17 : decode cX2_sumOfLeast 17 = .ok (.getfield 19, 3) := by decide +kernel
theorem dX2_sumOfLeast_20 : decode cX2_sumOfLeast 20 = .ok (.iload_n 2, 1) := by decide +kernel
theorem dX2_sumOfLeast_21 : decode cX2_sumOfLeast 21 = .ok (.iaload, 1) := by decide +kernel
theorem dX2_sumOfLeast_22 : decode cX2_sumOfLeast 22 = .ok (.iadd, 1) := by decide +kernel
theorem dX2_sumOfLeast_23 : decode cX2_sumOfLeast 23 = .ok (.istore_n 1, 1) := by decide +kernel
theorem dX2_sumOfLeast_24 : decode cX2_sumOfLeast 24 = .ok (.iinc 2 1, 3) := by decide +kernel
theorem dX2_sumOfLeast_27 : decode cX2_sumOfLeast 27 = .ok (.goto (-23), 3) := by decide +kernel
theorem dX2_sumOfLeast_30 : decode cX2_sumOfLeast 30 = .ok (.iload_n 1, 1) := by decide +kernel
theorem dX2_sumOfLeast_31 : decode cX2_sumOfLeast 31 = .ok (.ireturn, 1) := by decide +kernel
set_option maxRecDepth 20000 in
theorem ggX2_sumOfGreatest_X2_greatestOf : GoodIn wsX2_sumOfGreatest wsX2_greatestOf := goodIn_r _ [7, 8, 9, 10, 11, 12, 13, 14, 15, 16, 17, 18, 19, 20, 21, 22, 23, 24, 25, 26, 27, 28, 29, 30, 31, 32, 33, 34, 35, 36, 37, 38, 39, 40, 41, 42, 43, 44, 45, 50, 51, 52, 53, 46, 47, 48, 49] (by decide +kernel) (by decide +kernel)
set_option maxRecDepth 20000 in
theorem gX2_sumOfGreatest_X2_greatestOf : GoodIn wsX2_sumOfGreatest (wsV RX2 62 RX2 yX2_greatestOf wsX2_greatestOf) := goodIn_app (goodIn_of _ (by decide +kernel)) ggX2_sumOfGreatest_X2_greatestOf
theorem dX2_sumOfGreatest_0 : decode cX2_sumOfGreatest 0 = .ok (.iconst 0, 1) := by decide +kernel
theorem dX2_sumOfGreatest_1 : decode cX2_sumOfGreatest 1 = .ok (.istore_n 1, 1) := by decide +kernel
theorem dX2_sumOfGreatest_2 : decode cX2_sumOfGreatest 2 = .ok (.iconst 0, 1) := by decide +kernel
theorem dX2_sumOfGreatest_3 : decode cX2_sumOfGreatest 3 = .ok (.istore_n 2, 1) := by decide +kernel
theorem dX2_sumOfGreatest_4 : decode cX2_sumOfGreatest 4 = .ok (.iload_n 2, 1) := by decide +kernel
theorem dX2_sumOfGreatest_5 : decode cX2_sumOfGreatest 5 = .ok (.aload_n 0, 1) := by decide +kernel
theorem dX2_sumOfGreatest_6 : decode cX2_sumOfGreatest 6 = .ok (.getfield 9, 3) := by decide +kernel
theorem dX2_sumOfGreatest_9 : decode cX2_sumOfGreatest 9 = .ok (.getfield 23, 3) := by decide +kernel
theorem dX2_sumOfGreatest_12 : decode cX2_sumOfGreatest 12 = .ok (.if_icmp .ge 17, 3) := by decide +kernel
theorem dX2_sumOfGreatest_15 : decode cX2_sumOfGreatest 15 = .ok (.iload_n 1, 1) := by decide +kernel
theorem dX2_sumOfGreatest_16 : decode cX2_sumOfGreatest 16 = .ok (.aload_n 0, 1) := by decide +kernel
theorem dX2_sumOfGreatest_17 : decode cX2_sumOfGreatest 17 = .ok (.iload_n 2, 1) := by decide +kernel
theorem dX2_sumOfGreatest_18 : decode cX2_sumOfGreatest 18 = .ok (.invokevirtual 62, 3) := by decide +kernel
theorem dX2_sumOfGreatest_21 : decode cX2_sumOfGreatest 21 = .ok (.iadd, 1) := by decide +kernel
theorem dX2_sumOfGreatest_22 : decode cX2_sumOfGreatest 22 = .ok (.istore_n 1, 1) := by decide +kernel
theorem dX2_sumOfGreatest_23 : decode cX2_sumOfGreatest 23 = .ok (.iinc 2 1, 3) := by decide +kernel
theorem dX2_sumOfGreatest_26 : decode cX2_sumOfGreatest 26 = .ok (.goto (-22), 3) := by decide +kernel
theorem dX2_sumOfGreatest_29 : decode cX2_sumOfGreatest 29 = .ok (.iload_n 1, 1) := by decide +kernel
theorem dX2_sumOfGreatest_30 : decode cX2_sumOfGreatest 30 = .ok (.ireturn, 1) := by decide +kernel
set_option maxRecDepth 20000 in
theorem ggX2_worthOf_X4_isBarred : GoodIn wsX2_worthOf wsX4_isBarred := goodIn_r _ [14, 15, 19, 20, 21, 22] (by decide +kernel) (by decide +kernel)
set_option maxRecDepth 20000 in
theorem gX2_worthOf_X4_isBarred : GoodIn wsX2_worthOf (wsV RX2 45 RX4 yX4_isBarred wsX4_isBarred) := goodIn_app (goodIn_of _ (by decide +kernel)) ggX2_worthOf_X4_isBarred
theorem dX2_worthOf_0 : decode cX2_worthOf 0 = .ok (.aload_n 0, 1) := by decide +kernel
theorem dX2_worthOf_1 : decode cX2_worthOf 1 = .ok (.getfield 9, 3) := by decide +kernel
theorem dX2_worthOf_4 : decode cX2_worthOf 4 = .ok (.getfield 65, 3) := by decide +kernel
theorem dX2_worthOf_7 : decode cX2_worthOf 7 = .ok (.iload_n 1, 1) := by decide +kernel
theorem dX2_worthOf_8 : decode cX2_worthOf 8 = .ok (.iaload, 1) := by decide +kernel
theorem dX2_worthOf_9 : decode cX2_worthOf 9 = .ok (.istore_n 2, 1) := by decide +kernel
theorem dX2_worthOf_10 : decode cX2_worthOf 10 = .ok (.iconst 0, 1) := by decide +kernel
theorem dX2_worthOf_11 : decode cX2_worthOf 11 = .ok (.istore_n 3, 1) := by decide +kernel
theorem dX2_worthOf_12 : decode cX2_worthOf 12 = .ok (.iload_n 3, 1) := by decide +kernel
theorem dX2_worthOf_13 : decode cX2_worthOf 13 = .ok (.aload_n 0, 1) := by decide +kernel
theorem dX2_worthOf_14 : decode cX2_worthOf 14 = .ok (.getfield 9, 3) := by decide +kernel
theorem dX2_worthOf_17 : decode cX2_worthOf 17 = .ok (.getfield 23, 3) := by decide +kernel
theorem dX2_worthOf_20 : decode cX2_worthOf 20 = .ok (.if_icmp .ge 44, 3) := by decide +kernel
theorem dX2_worthOf_23 : decode cX2_worthOf 23 = .ok (.aload_n 0, 1) := by decide +kernel
theorem dX2_worthOf_24 : decode cX2_worthOf 24 = .ok (.getfield 9, 3) := by decide +kernel
theorem dX2_worthOf_27 : decode cX2_worthOf 27 = .ok (.iload_n 1, 1) := by decide +kernel
theorem dX2_worthOf_28 : decode cX2_worthOf 28 = .ok (.iload_n 3, 1) := by decide +kernel
theorem dX2_worthOf_29 : decode cX2_worthOf 29 = .ok (.invokevirtual 45, 3) := by decide +kernel
theorem dX2_worthOf_32 : decode cX2_worthOf 32 = .ok (.ifCond .ne 26, 3) := by decide +kernel
theorem dX2_worthOf_35 : decode cX2_worthOf 35 = .ok (.iload_n 2, 1) := by decide +kernel
theorem dX2_worthOf_36 : decode cX2_worthOf 36 = .ok (.aload_n 0, 1) := by decide +kernel
theorem dX2_worthOf_37 : decode cX2_worthOf 37 = .ok (.getfield 9, 3) := by decide +kernel
theorem dX2_worthOf_40 : decode cX2_worthOf 40 = .ok (.getfield 49, 3) := by decide +kernel
theorem dX2_worthOf_43 : decode cX2_worthOf 43 = .ok (.iload_n 1, 1) := by decide +kernel
theorem dX2_worthOf_44 : decode cX2_worthOf 44 = .ok (.aaload, 1) := by decide +kernel
theorem dX2_worthOf_45 : decode cX2_worthOf 45 = .ok (.iload_n 3, 1) := by decide +kernel
theorem dX2_worthOf_46 : decode cX2_worthOf 46 = .ok (.iaload, 1) := by decide +kernel
theorem dX2_worthOf_47 : decode cX2_worthOf 47 = .ok (.aload_n 0, 1) := by decide +kernel
theorem dX2_worthOf_48 : decode cX2_worthOf 48 = .ok (.getfield 19, 3) := by decide +kernel
theorem dX2_worthOf_51 : decode cX2_worthOf 51 = .ok (.iload_n 3, 1) := by decide +kernel
theorem dX2_worthOf_52 : decode cX2_worthOf 52 = .ok (.iaload, 1) := by decide +kernel
theorem dX2_worthOf_53 : decode cX2_worthOf 53 = .ok (.iadd, 1) := by decide +kernel
theorem dX2_worthOf_54 : decode cX2_worthOf 54 = .ok (.invokestatic 68, 3) := by decide +kernel
theorem dX2_worthOf_57 : decode cX2_worthOf 57 = .ok (.istore_n 2, 1) := by decide +kernel
theorem dX2_worthOf_58 : decode cX2_worthOf 58 = .ok (.iinc 3 1, 3) := by decide +kernel
theorem dX2_worthOf_61 : decode cX2_worthOf 61 = .ok (.goto (-49), 3) := by decide +kernel
theorem dX2_worthOf_64 : decode cX2_worthOf 64 = .ok (.iload_n 2, 1) := by decide +kernel
theorem dX2_worthOf_65 : decode cX2_worthOf 65 = .ok (.ireturn, 1) := by decide +kernel
set_option maxRecDepth 20000 in
theorem ggX2_sumOfWorths_X2_worthOf : GoodIn wsX2_sumOfWorths wsX2_worthOf := goodIn_r _ [7, 1, 8, 9, 10, 11, 12, 13, 14, 15, 16, 17, 18, 19, 20, 21, 22, 23, 24, 25, 26, 27, 28] (by decide +kernel) (by decide +kernel)
set_option maxRecDepth 20000 in
theorem gX2_sumOfWorths_X2_worthOf : GoodIn wsX2_sumOfWorths (wsV RX2 71 RX2 yX2_worthOf wsX2_worthOf) := goodIn_app (goodIn_of _ (by decide +kernel)) ggX2_sumOfWorths_X2_worthOf
theorem dX2_sumOfWorths_0 : decode cX2_sumOfWorths 0 = .ok (.iconst 0, 1) := by decide +kernel
theorem dX2_sumOfWorths_1 : decode cX2_sumOfWorths 1 = .ok (.istore_n 1, 1) := by decide +kernel
theorem dX2_sumOfWorths_2 : decode cX2_sumOfWorths 2 = .ok (.iconst 0, 1) := by decide +kernel
theorem dX2_sumOfWorths_3 : decode cX2_sumOfWorths 3 = .ok (.istore_n 2, 1) := by decide +kernel
theorem dX2_sumOfWorths_4 : decode cX2_sumOfWorths 4 = .ok (.iload_n 2, 1) := by decide +kernel
theorem dX2_sumOfWorths_5 : decode cX2_sumOfWorths 5 = .ok (.aload_n 0, 1) := by decide +kernel
theorem dX2_sumOfWorths_6 : decode cX2_sumOfWorths 6 = .ok (.getfield 9, 3) := by decide +kernel
theorem dX2_sumOfWorths_9 : decode cX2_sumOfWorths 9 = .ok (.getfield 35, 3) := by decide +kernel
theorem dX2_sumOfWorths_12 : decode cX2_sumOfWorths 12 = .ok (.if_icmp .ge 17, 3) := by decide +kernel
theorem dX2_sumOfWorths_15 : decode cX2_sumOfWorths 15 = .ok (.iload_n 1, 1) := by decide +kernel
theorem dX2_sumOfWorths_16 : decode cX2_sumOfWorths 16 = .ok (.aload_n 0, 1) := by decide +kernel
theorem dX2_sumOfWorths_17 : decode cX2_sumOfWorths 17 = .ok (.iload_n 2, 1) := by decide +kernel
theorem dX2_sumOfWorths_18 : decode cX2_sumOfWorths 18 = .ok (.invokevirtual 71, 3) := by decide +kernel
theorem dX2_sumOfWorths_21 : decode cX2_sumOfWorths 21 = .ok (.iadd, 1) := by decide +kernel
theorem dX2_sumOfWorths_22 : decode cX2_sumOfWorths 22 = .ok (.istore_n 1, 1) := by decide +kernel
theorem dX2_sumOfWorths_23 : decode cX2_sumOfWorths 23 = .ok (.iinc 2 1, 3) := by decide +kernel
theorem dX2_sumOfWorths_26 : decode cX2_sumOfWorths 26 = .ok (.goto (-22), 3) := by decide +kernel
theorem dX2_sumOfWorths_29 : decode cX2_sumOfWorths 29 = .ok (.iload_n 1, 1) := by decide +kernel
theorem dX2_sumOfWorths_30 : decode cX2_sumOfWorths 30 = .ok (.ireturn, 1) := by decide +kernel
set_option maxRecDepth 20000 in
theorem ggX2_tightTasksOf_X2_worthOf : GoodIn wsX2_tightTasksOf wsX2_worthOf := goodIn_r _ [9, 1, 10, 2, 3, 4, 11, 12, 13, 14, 15, 16, 17, 18, 19, 20, 21, 22, 23, 24, 25, 26, 27] (by decide +kernel) (by decide +kernel)
set_option maxRecDepth 20000 in
theorem gX2_tightTasksOf_X2_worthOf : GoodIn wsX2_tightTasksOf (wsV RX2 71 RX2 yX2_worthOf wsX2_worthOf) := goodIn_app (goodIn_of _ (by decide +kernel)) ggX2_tightTasksOf_X2_worthOf
set_option maxRecDepth 20000 in
theorem ggX2_tightTasksOf_X4_isBarred : GoodIn wsX2_tightTasksOf wsX4_isBarred := goodIn_r _ [19, 20, 24, 25, 26, 27] (by decide +kernel) (by decide +kernel)
set_option maxRecDepth 20000 in
theorem gX2_tightTasksOf_X4_isBarred : GoodIn wsX2_tightTasksOf (wsV RX2 45 RX4 yX4_isBarred wsX4_isBarred) := goodIn_app (goodIn_of _ (by decide +kernel)) ggX2_tightTasksOf_X4_isBarred
theorem dX2_tightTasksOf_0 : decode cX2_tightTasksOf 0 = .ok (.aload_n 0, 1) := by decide +kernel
theorem dX2_tightTasksOf_1 : decode cX2_tightTasksOf 1 = .ok (.iload_n 1, 1) := by decide +kernel
theorem dX2_tightTasksOf_2 : decode cX2_tightTasksOf 2 = .ok (.invokevirtual 71, 3) := by decide +kernel
theorem dX2_tightTasksOf_5 : decode cX2_tightTasksOf 5 = .ok (.istore_n 2, 1) := by decide +kernel
theorem dX2_tightTasksOf_6 : decode cX2_tightTasksOf 6 = .ok (.iconst 0, 1) := by decide +kernel
theorem dX2_tightTasksOf_7 : decode cX2_tightTasksOf 7 = .ok (.istore_n 3, 1) := by decide +kernel
theorem dX2_tightTasksOf_8 : decode cX2_tightTasksOf 8 = .ok (.iconst 0, 1) := by decide +kernel
theorem dX2_tightTasksOf_9 : decode cX2_tightTasksOf 9 = .ok (.istore 4, 2) := by decide +kernel
theorem dX2_tightTasksOf_11 : decode cX2_tightTasksOf 11 = .ok (.iload 4, 2) := by decide +kernel
theorem dX2_tightTasksOf_13 : decode cX2_tightTasksOf 13 = .ok (.aload_n 0, 1) := by decide +kernel
theorem dX2_tightTasksOf_14 : decode cX2_tightTasksOf 14 = .ok (.getfield 9, 3) := by decide +kernel
theorem dX2_tightTasksOf_17 : decode cX2_tightTasksOf 17 = .ok (.getfield 23, 3) := by decide +kernel
theorem dX2_tightTasksOf_20 : decode cX2_tightTasksOf 20 = .ok (.if_icmp .ge 53, 3) := by decide +kernel
theorem dX2_tightTasksOf_23 : decode cX2_tightTasksOf 23 = .ok (.aload_n 0, 1) := by decide +kernel
theorem dX2_tightTasksOf_24 : decode cX2_tightTasksOf 24 = .ok (.getfield 9, 3) := by decide +kernel
theorem dX2_tightTasksOf_27 : decode cX2_tightTasksOf 27 = .ok (.iload_n 1, 1) := by decide +kernel
theorem dX2_tightTasksOf_28 : decode cX2_tightTasksOf 28 = .ok (.iload 4, 2) := by decide +kernel
theorem dX2_tightTasksOf_30 : decode cX2_tightTasksOf 30 = .ok (.invokevirtual 45, 3) := by decide +kernel
theorem dX2_tightTasksOf_33 : decode cX2_tightTasksOf 33 = .ok (.ifCond .ne 34, 3) := by decide +kernel
theorem dX2_tightTasksOf_36 : decode cX2_tightTasksOf 36 = .ok (.aload_n 0, 1) := by decide +kernel
theorem dX2_tightTasksOf_37 : decode cX2_tightTasksOf 37 = .ok (.getfield 9, 3) := by decide +kernel
theorem dX2_tightTasksOf_40 : decode cX2_tightTasksOf 40 = .ok (.getfield 49, 3) := by decide +kernel
theorem dX2_tightTasksOf_43 : decode cX2_tightTasksOf 43 = .ok (.iload_n 1, 1) := by decide +kernel
theorem dX2_tightTasksOf_44 : decode cX2_tightTasksOf 44 = .ok (.aaload, 1) := by decide +kernel
theorem dX2_tightTasksOf_45 : decode cX2_tightTasksOf 45 = .ok (.iload 4, 2) := by decide +kernel
theorem dX2_tightTasksOf_47 : decode cX2_tightTasksOf 47 = .ok (.iaload, 1) := by decide +kernel
theorem dX2_tightTasksOf_48 : decode cX2_tightTasksOf 48 = .ok (.aload_n 0, 1) := by decide +kernel
theorem dX2_tightTasksOf_49 : decode cX2_tightTasksOf 49 = .ok (.getfield 19, 3) := by decide +kernel
theorem dX2_tightTasksOf_52 : decode cX2_tightTasksOf 52 = .ok (.iload 4, 2) := by decide +kernel
theorem dX2_tightTasksOf_54 : decode cX2_tightTasksOf 54 = .ok (.iaload, 1) := by decide +kernel
theorem dX2_tightTasksOf_55 : decode cX2_tightTasksOf 55 = .ok (.iadd, 1) := by decide +kernel
theorem dX2_tightTasksOf_56 : decode cX2_tightTasksOf 56 = .ok (.iload_n 2, 1) := by decide +kernel
theorem dX2_tightTasksOf_57 : decode cX2_tightTasksOf 57 = .ok (.if_icmp .ne 10, 3) := by decide +kernel
theorem dX2_tightTasksOf_60 : decode cX2_tightTasksOf 60 = .ok (.iload_n 3, 1) := by decide +kernel
theorem dX2_tightTasksOf_61 : decode cX2_tightTasksOf 61 = .ok (.iconst 1, 1) := by decide +kernel
theorem dX2_tightTasksOf_62 : decode cX2_tightTasksOf 62 = .ok (.iload 4, 2) := by decide +kernel
theorem dX2_tightTasksOf_64 : decode cX2_tightTasksOf 64 = .ok (.ishl, 1) := by decide +kernel
theorem dX2_tightTasksOf_65 : decode cX2_tightTasksOf 65 = .ok (.ior, 1) := by decide +kernel
theorem dX2_tightTasksOf_66 : decode cX2_tightTasksOf 66 = .ok (.istore_n 3, 1) := by decide +kernel
theorem dX2_tightTasksOf_67 : decode cX2_tightTasksOf 67 = .ok (.iinc 4 1, 3) := by decide +kernel
theorem dX2_tightTasksOf_70 : decode cX2_tightTasksOf 70 = .ok (.goto (-59), 3) := by decide +kernel
theorem dX2_tightTasksOf_73 : decode cX2_tightTasksOf 73 = .ok (.iload_n 3, 1) := by decide +kernel
theorem dX2_tightTasksOf_74 : decode cX2_tightTasksOf 74 = .ok (.ireturn, 1) := by decide +kernel
set_option maxRecDepth 20000 in
theorem ggX2_tightPairs_X2_tightTasksOf : GoodIn wsX2_tightPairs wsX2_tightTasksOf := goodIn_r _ [7, 1, 8, 9, 10, 11, 12, 13, 6, 14, 15, 16, 17, 18, 19, 20, 21, 22, 23, 24, 25, 33, 34, 35, 36, 37, 38, 39] (by decide +kernel) (by decide +kernel)
set_option maxRecDepth 20000 in
theorem gX2_tightPairs_X2_tightTasksOf : GoodIn wsX2_tightPairs (wsV RX2 74 RX2 yX2_tightTasksOf wsX2_tightTasksOf) := goodIn_app (goodIn_of _ (by decide +kernel)) ggX2_tightPairs_X2_tightTasksOf
set_option maxRecDepth 20000 in
theorem ggX2_tightPairs_J6_bitCount_0f7a4 : GoodIn wsX2_tightPairs wsJ6_bitCount_0f7a4 := goodIn_r _ [29, 30, 31, 32] (by decide +kernel) (by decide +kernel)
set_option maxRecDepth 20000 in
theorem gX2_tightPairs_J6_bitCount_0f7a4 : GoodIn wsX2_tightPairs (va_wsS RX2 77 yJ6_bitCount_0f7a4 wsJ6_bitCount_0f7a4) := goodIn_app (goodIn_of _ (by decide +kernel)) ggX2_tightPairs_J6_bitCount_0f7a4
theorem dX2_tightPairs_0 : decode cX2_tightPairs 0 = .ok (.iconst 0, 1) := by decide +kernel
theorem dX2_tightPairs_1 : decode cX2_tightPairs 1 = .ok (.istore_n 1, 1) := by decide +kernel
theorem dX2_tightPairs_2 : decode cX2_tightPairs 2 = .ok (.iconst 0, 1) := by decide +kernel
theorem dX2_tightPairs_3 : decode cX2_tightPairs 3 = .ok (.istore_n 2, 1) := by decide +kernel
theorem dX2_tightPairs_4 : decode cX2_tightPairs 4 = .ok (.iload_n 2, 1) := by decide +kernel
theorem dX2_tightPairs_5 : decode cX2_tightPairs 5 = .ok (.aload_n 0, 1) := by decide +kernel
theorem dX2_tightPairs_6 : decode cX2_tightPairs 6 = .ok (.getfield 9, 3) := by decide +kernel
theorem dX2_tightPairs_9 : decode cX2_tightPairs 9 = .ok (.getfield 35, 3) := by decide +kernel
theorem dX2_tightPairs_12 : decode cX2_tightPairs 12 = .ok (.if_icmp .ge 20, 3) := by decide +kernel
theorem dX2_tightPairs_15 : decode cX2_tightPairs 15 = .ok (.iload_n 1, 1) := by decide +kernel
theorem dX2_tightPairs_16 : decode cX2_tightPairs 16 = .ok (.aload_n 0, 1) := by decide +kernel
theorem dX2_tightPairs_17 : decode cX2_tightPairs 17 = .ok (.iload_n 2, 1) := by decide +kernel
theorem dX2_tightPairs_18 : decode cX2_tightPairs 18 = .ok (.invokevirtual 74, 3) := by decide +kernel
theorem dX2_tightPairs_21 : decode cX2_tightPairs 21 = .ok (.invokestatic 77, 3) := by decide +kernel
theorem dX2_tightPairs_24 : decode cX2_tightPairs 24 = .ok (.iadd, 1) := by decide +kernel
theorem dX2_tightPairs_25 : decode cX2_tightPairs 25 = .ok (.istore_n 1, 1) := by decide +kernel
theorem dX2_tightPairs_26 : decode cX2_tightPairs 26 = .ok (.iinc 2 1, 3) := by decide +kernel
theorem dX2_tightPairs_29 : decode cX2_tightPairs 29 = .ok (.goto (-25), 3) := by decide +kernel
theorem dX2_tightPairs_32 : decode cX2_tightPairs 32 = .ok (.iload_n 1, 1) := by decide +kernel
theorem dX2_tightPairs_33 : decode cX2_tightPairs 33 = .ok (.ireturn, 1) := by decide +kernel
