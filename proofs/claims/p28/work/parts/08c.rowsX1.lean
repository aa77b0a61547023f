theorem dX1_init_0 : decode cX1_init 0 = .ok (.aload_n 0, 1) := by decide +kernel
theorem dX1_init_1 : decode cX1_init 1 = .ok (.invokespecial 3, 3) := by decide +kernel
theorem dX1_init_4 : decode cX1_init 4 = .ok (.aload_n 0, 1) := by decide +kernel
theorem dX1_init_5 : decode cX1_init 5 = .ok (.aload_n 1, 1) := by decide +kernel
theorem dX1_init_6 : decode cX1_init 6 = .ok (.putfield 9, 3) := by decide +kernel
theorem dX1_init_9 : decode cX1_init 9 = .ok (.aload_n 0, 1) := by decide +kernel
theorem dX1_init_10 : decode cX1_init 10 = .ok (.bipush 7, 2) := by decide +kernel
theorem dX1_init_12 : decode cX1_init 12 = .ok (.newarray .int, 2) := by decide +kernel
theorem dX1_init_14 : decode cX1_init 14 = .ok (.putfield 15, 3) := by decide +kernel
theorem dX1_init_17 : decode cX1_init 17 = .ok (.aload_n 0, 1) := by decide +kernel
theorem dX1_init_18 : decode cX1_init 18 = .ok (.bipush 8, 2) := by decide +kernel
theorem dX1_init_20 : decode cX1_init 20 = .ok (.sipush 128, 3) := by decide +kernel
theorem dX1_init_23 : decode cX1_init 23 = .ok (.multianewarray 19 2, 4) := by decide +kernel
theorem dX1_init_27 : decode cX1_init 27 = .ok (.putfield 21, 3) := by decide +kernel
theorem dX1_init_30 : decode cX1_init 30 = .ok (.return_, 1) := by decide +kernel
set_option maxRecDepth 20000 in
theorem ggX1_leastTotal_X4_allWorkers : GoodIn wsX1_leastTotal wsX4_allWorkers := goodIn_r _ [6, 7, 39, 40, 41, 42] (by decide +kernel) (by decide +kernel)
set_option maxRecDepth 20000 in
theorem gX1_leastTotal_X4_allWorkers : GoodIn wsX1_leastTotal (wsV RX1 24 RX4 yX4_allWorkers wsX4_allWorkers) := goodIn_app (goodIn_of _ (by decide +kernel)) ggX1_leastTotal_X4_allWorkers
set_option maxRecDepth 20000 in
theorem ggX1_leastTotal_X1_leastTotalOf : GoodIn wsX1_leastTotal wsX1_leastTotalOf := goodIn_r _ [12, 13, 14, 15, 16, 11, 17, 1, 18, 19, 20, 21, 22, 23, 24, 25, 26, 27, 28, 29, 30, 31, 32, 33, 34, 35, 36, 37, 38, 39, 40, 41, 42] (by decide +kernel) (by decide +kernel)
set_option maxRecDepth 20000 in
theorem gX1_leastTotal_X1_leastTotalOf : GoodIn wsX1_leastTotal (wsV RX1 30 RX1 yX1_leastTotalOf wsX1_leastTotalOf) := goodIn_app (goodIn_of _ (by decide +kernel)) ggX1_leastTotal_X1_leastTotalOf
theorem dX1_leastTotal_0 : decode cX1_leastTotal 0 = .ok (.aload_n 0, 1) := by decide +kernel
theorem dX1_leastTotal_1 : decode cX1_leastTotal 1 = .ok (.aload_n 0, 1) := by decide +kernel
theorem dX1_leastTotal_2 : decode cX1_leastTotal 2 = .ok (.getfield 9, 3) := by decide +kernel
theorem dX1_leastTotal_5 : decode cX1_leastTotal 5 = .ok (.invokevirtual 24, 3) := by decide +kernel
theorem dX1_leastTotal_8 : decode cX1_leastTotal 8 = .ok (.invokevirtual 30, 3) := by decide +kernel
theorem dX1_leastTotal_11 : decode cX1_leastTotal 11 = .ok (.ireturn, 1) := by decide +kernel
set_option maxRecDepth 20000 in
theorem ggX1_leastTotalOf_X1_weigh : GoodIn wsX1_leastTotalOf wsX1_weigh := goodIn_r _ [6, 7, 8, 1, 9, 10, 11, 12, 5, 13, 14, 15, 16, 17, 18, 19, 20, 21, 22, 23, 24, 25, 26, 27, 28, 29, 30, 31, 32] (by decide +kernel) (by decide +kernel)
set_option maxRecDepth 20000 in
theorem gX1_leastTotalOf_X1_weigh : GoodIn wsX1_leastTotalOf (wsV RX1 34 RX1 yX1_weigh wsX1_weigh) := goodIn_app (goodIn_of _ (by decide +kernel)) ggX1_leastTotalOf_X1_weigh
theorem dX1_leastTotalOf_0 : decode cX1_leastTotalOf 0 = .ok (.aload_n 0, 1) := by decide +kernel
theorem dX1_leastTotalOf_1 : decode cX1_leastTotalOf 1 = .ok (.iload_n 1, 1) := by decide +kernel
theorem dX1_leastTotalOf_2 : decode cX1_leastTotalOf 2 = .ok (.invokevirtual 34, 3) := by decide +kernel
theorem dX1_leastTotalOf_5 : decode cX1_leastTotalOf 5 = .ok (.aload_n 0, 1) := by decide +kernel
theorem dX1_leastTotalOf_6 : decode cX1_leastTotalOf 6 = .ok (.getfield 21, 3) := by decide +kernel
theorem dX1_leastTotalOf_9 : decode cX1_leastTotalOf 9 = .ok (.iconst 0, 1) := by decide +kernel
theorem dX1_leastTotalOf_10 : decode cX1_leastTotalOf 10 = .ok (.aaload, 1) := by decide +kernel
theorem dX1_leastTotalOf_11 : decode cX1_leastTotalOf 11 = .ok (.iconst 0, 1) := by decide +kernel
theorem dX1_leastTotalOf_12 : decode cX1_leastTotalOf 12 = .ok (.iaload, 1) := by decide +kernel
theorem dX1_leastTotalOf_13 : decode cX1_leastTotalOf 13 = .ok (.ireturn, 1) := by decide +kernel
set_option maxRecDepth 20000 in
theorem ggX1_lossWithoutTask_X4_allWorkers : GoodIn wsX1_lossWithoutTask wsX4_allWorkers := goodIn_r _ [7, 8, 35, 36, 37, 38] (by decide +kernel) (by decide +kernel)
set_option maxRecDepth 20000 in
theorem gX1_lossWithoutTask_X4_allWorkers : GoodIn wsX1_lossWithoutTask (wsV RX1 24 RX4 yX4_allWorkers wsX4_allWorkers) := goodIn_app (goodIn_of _ (by decide +kernel)) ggX1_lossWithoutTask_X4_allWorkers
set_option maxRecDepth 20000 in
theorem ggX1_lossWithoutTask_X1_weigh : GoodIn wsX1_lossWithoutTask wsX1_weigh := goodIn_r _ [13, 1, 14, 2, 15, 16, 17, 18, 12, 19, 20, 21, 22, 23, 24, 25, 26, 27, 28, 29, 30, 31, 32, 33, 34, 35, 36, 37, 38] (by decide +kernel) (by decide +kernel)
set_option maxRecDepth 20000 in
theorem gX1_lossWithoutTask_X1_weigh : GoodIn wsX1_lossWithoutTask (wsV RX1 34 RX1 yX1_weigh wsX1_weigh) := goodIn_app (goodIn_of _ (by decide +kernel)) ggX1_lossWithoutTask_X1_weigh
theorem dX1_lossWithoutTask_0 : decode cX1_lossWithoutTask 0 = .ok (.aload_n 0, 1) := by decide +kernel
theorem dX1_lossWithoutTask_1 : decode cX1_lossWithoutTask 1 = .ok (.aload_n 0, 1) := by decide +kernel
theorem dX1_lossWithoutTask_2 : decode cX1_lossWithoutTask 2 = .ok (.getfield 9, 3) := by decide +kernel
theorem dX1_lossWithoutTask_5 : decode cX1_lossWithoutTask 5 = .ok (.invokevirtual 24, 3) := by decide +kernel
theorem dX1_lossWithoutTask_8 : decode cX1_lossWithoutTask 8 = .ok (.invokevirtual 34, 3) := by decide +kernel
theorem dX1_lossWithoutTask_11 : decode cX1_lossWithoutTask 11 = .ok (.aload_n 0, 1) := by decide +kernel
theorem dX1_lossWithoutTask_12 : decode cX1_lossWithoutTask 12 = .ok (.getfield 21, 3) := by decide +kernel
theorem dX1_lossWithoutTask_15 : decode cX1_lossWithoutTask 15 = .ok (.iconst 0, 1) := by decide +kernel
theorem dX1_lossWithoutTask_16 : decode cX1_lossWithoutTask 16 = .ok (.aaload, 1) := by decide +kernel
theorem dX1_lossWithoutTask_17 : decode cX1_lossWithoutTask 17 = .ok (.iconst 1, 1) := by decide +kernel
theorem dX1_lossWithoutTask_18 : decode cX1_lossWithoutTask 18 = .ok (.iload_n 1, 1) := by decide +kernel
theorem dX1_lossWithoutTask_19 : decode cX1_lossWithoutTask 19 = .ok (.ishl, 1) := by decide +kernel
theorem dX1_lossWithoutTask_20 : decode cX1_lossWithoutTask 20 = .ok (.iaload, 1) := by decide +kernel
theorem dX1_lossWithoutTask_21 : decode cX1_lossWithoutTask 21 = .ok (.aload_n 0, 1) := by decide +kernel
theorem dX1_lossWithoutTask_22 : decode cX1_lossWithoutTask 22 = .ok (.getfield 21, 3) := by decide +kernel
theorem dX1_lossWithoutTask_25 : decode cX1_lossWithoutTask 25 = .ok (.iconst 0, 1) := by decide +kernel
theorem dX1_lossWithoutTask_26 : decode cX1_lossWithoutTask 26 = .ok (.aaload, 1) := by decide +kernel
theorem dX1_lossWithoutTask_27 : decode cX1_lossWithoutTask 27 = .ok (.iconst 0, 1) := by decide +kernel
theorem dX1_lossWithoutTask_28 : decode cX1_lossWithoutTask 28 = .ok (.iaload, 1) := by decide +kernel
theorem dX1_lossWithoutTask_29 : decode cX1_lossWithoutTask 29 = .ok (.isub, 1) := by decide +kernel
theorem dX1_lossWithoutTask_30 : decode cX1_lossWithoutTask 30 = .ok (.ireturn, 1) := by decide +kernel
set_option maxRecDepth 20000 in
theorem ggX1_weigh_X1_leastFrom : GoodIn wsX1_weigh wsX1_leastFrom := goodIn_r _ [9, 1, 10, 3, 2, 11, 12, 13, 14, 15, 16, 17, 8, 18, 19, 20, 21, 22, 23, 24, 25, 26, 27, 28] (by decide +kernel) (by decide +kernel)
set_option maxRecDepth 20000 in
theorem gX1_weigh_X1_leastFrom : GoodIn wsX1_weigh (wsV RX1 45 RX1 yX1_leastFrom wsX1_leastFrom) := goodIn_app (goodIn_of _ (by decide +kernel)) ggX1_weigh_X1_leastFrom
theorem dX1_weigh_0 : decode cX1_weigh 0 = .ok (.iconst 1, 1) := by decide +kernel
theorem dX1_weigh_1 : decode cX1_weigh 1 = .ok (.aload_n 0, 1) := by decide +kernel
theorem dX1_weigh_2 : decode cX1_weigh 2 = .ok (.getfield 9, 3) := by decide +kernel
theorem dX1_weigh_5 : decode cX1_weigh 5 = .ok (.getfield 38, 3) := by decide +kernel
theorem dX1_weigh_8 : decode cX1_weigh 8 = .ok (.ishl, 1) := by decide +kernel
theorem dX1_weigh_9 : decode cX1_weigh 9 = .ok (.istore_n 2, 1) := by decide +kernel
theorem dX1_weigh_10 : decode cX1_weigh 10 = .ok (.iconst 0, 1) := by decide +kernel
theorem dX1_weigh_11 : decode cX1_weigh 11 = .ok (.istore_n 3, 1) := by decide +kernel
theorem dX1_weigh_12 : decode cX1_weigh 12 = .ok (.iload_n 3, 1) := by decide +kernel
theorem dX1_weigh_13 : decode cX1_weigh 13 = .ok (.iload_n 2, 1) := by decide +kernel
theorem dX1_weigh_14 : decode cX1_weigh 14 = .ok (.if_icmp .ge 24, 3) := by decide +kernel
theorem dX1_weigh_17 : decode cX1_weigh 17 = .ok (.aload_n 0, 1) := by decide +kernel
theorem dX1_weigh_18 : decode cX1_weigh 18 = .ok (.getfield 21, 3) := by decide +kernel
theorem dX1_weigh_21 : decode cX1_weigh 21 = .ok (.aload_n 0, 1) := by decide +kernel
theorem dX1_weigh_22 : decode cX1_weigh 22 = .ok (.getfield 9, 3) := by decide +kernel
theorem dX1_weigh_25 : decode cX1_weigh 25 = .ok (.getfield 42, 3) := by decide +kernel
theorem dX1_weigh_28 : decode cX1_weigh 28 = .ok (.aaload, 1) := by decide +kernel
theorem dX1_weigh_29 : decode cX1_weigh 29 = .ok (.iload_n 3, 1) := by decide +kernel
theorem dX1_weigh_30 : decode cX1_weigh 30 = .ok (.iconst 0, 1) := by decide +kernel
theorem dX1_weigh_31 : decode cX1_weigh 31 = .ok (.iastore, 1) := by decide +kernel
theorem dX1_weigh_32 : decode cX1_weigh 32 = .ok (.iinc 3 1, 3) := by decide +kernel
theorem dX1_weigh_35 : decode cX1_weigh 35 = .ok (.goto (-23), 3) := by decide +kernel
theorem dX1_weigh_38 : decode cX1_weigh 38 = .ok (.aload_n 0, 1) := by decide +kernel
theorem dX1_weigh_39 : decode cX1_weigh 39 = .ok (.getfield 9, 3) := by decide +kernel
theorem dX1_weigh_42 : decode cX1_weigh 42 = .ok (.getfield 42, 3) := by decide +kernel
theorem dX1_weigh_45 : decode cX1_weigh 45 = .ok (.iconst 1, 1) := by decide +kernel
theorem dX1_weigh_46 : decode cX1_weigh 46 = .ok (.isub, 1) := by decide +kernel
theorem dX1_weigh_47 : decode cX1_weigh 47 = .ok (.istore_n 3, 1) := by decide +kernel
theorem dX1_weigh_48 : decode cX1_weigh 48 = .ok (.iload_n 3, 1) := by decide +kernel
theorem dX1_weigh_49 : decode cX1_weigh 49 = .ok (.ifCond .lt 75, 3) := by decide +kernel
theorem dX1_weigh_52 : decode cX1_weigh 52 = .ok (.iload_n 1, 1) := by decide +kernel
theorem dX1_weigh_53 : decode cX1_weigh 53 = .ok (.iload_n 3, 1) := by decide +kernel
theorem dX1_weigh_54 : decode cX1_weigh 54 = .ok (.ishr, 1) := by decide +kernel
theorem dX1_weigh_55 : decode cX1_weigh 55 = .ok (.iconst 1, 1) := by decide +kernel
theorem dX1_weigh_56 : decode cX1_weigh 56 = .ok (.iand, 1) := by decide +kernel
theorem dX1_weigh_57 : decode cX1_weigh 57 = .ok (.iconst 1, 1) := by decide +kernel
theorem dX1_weigh_58 : decode cX1_weigh 58 = .ok (.if_icmp .ne 7, 3) := by decide +kernel
theorem dX1_weigh_61 : decode cX1_weigh 61 = .ok (.iconst 1, 1) := by decide +kernel
theorem dX1_weigh_62 : decode cX1_weigh 62 = .ok (.goto 4, 3) := by decide +kernel
theorem dX1_weigh_65 : decode cX1_weigh 65 = .ok (.iconst 0, 1) := by decide +kernel
theorem dX1_weigh_66 : decode cX1_weigh 66 = .ok (.istore 4, 2) := by decide +kernel
theorem dX1_weigh_68 : decode cX1_weigh 68 = .ok (.iconst 0, 1) := by decide +kernel
theorem dX1_weigh_69 : decode cX1_weigh 69 = .ok (.istore 5, 2) := by decide +kernel
theorem dX1_weigh_71 : decode cX1_weigh 71 = .ok (.iload 5, 2) := by decide +kernel
theorem dX1_weigh_73 : decode cX1_weigh 73 = .ok (.iload_n 2, 1) := by decide +kernel
theorem dX1_weigh_74 : decode cX1_weigh 74 = .ok (.if_icmp .ge 44, 3) := by decide +kernel
theorem dX1_weigh_77 : decode cX1_weigh 77 = .ok (.aload_n 0, 1) := by decide +kernel
theorem dX1_weigh_78 : decode cX1_weigh 78 = .ok (.getfield 21, 3) := by decide +kernel
theorem dX1_weigh_81 : decode cX1_weigh 81 = .ok (.iload_n 3, 1) := by decide +kernel
theorem dX1_weigh_82 : decode cX1_weigh 82 = .ok (.aaload, 1) := by decide +kernel
theorem dX1_weigh_83 : decode cX1_weigh 83 = .ok (.iload 5, 2) := by decide +kernel
theorem dX1_weigh_85 : decode cX1_weigh 85 = .ok (.iload 4, 2) := by decide +kernel
theorem dX1_weigh_87 : decode cX1_weigh 87 = .ok (.ifCond .eq 13, 3) := by decide +kernel
theorem dX1_weigh_90 : decode cX1_weigh 90 = .ok (.aload_n 0, 1) := by decide +kernel
theorem dX1_weigh_91 : decode cX1_weigh 91 = .ok (.iload_n 3, 1) := by decide +kernel
theorem dX1_weigh_92 : decode cX1_weigh 92 = .ok (.iload 5, 2) := by decide +kernel
theorem dX1_weigh_94 : decode cX1_weigh 94 = .ok (.invokevirtual 45, 3) := by decide +kernel
theorem dX1_weigh_97 : decode cX1_weigh 97 = .ok (.goto 14, 3) := by decide +kernel
theorem dX1_weigh_100 : decode cX1_weigh 100 = .ok (.aload_n 0, 1) := by decide +kernel
theorem dX1_weigh_101 : decode cX1_weigh 101 = .ok (.getfield 21, 3) := by decide +kernel
theorem dX1_weigh_104 : decode cX1_weigh 104 = .ok (.iload_n 3, 1) := by decide +kernel
theorem dX1_weigh_105 : decode cX1_weigh 105 = .ok (.iconst 1, 1) := by decide +kernel
theorem dX1_weigh_106 : decode cX1_weigh 106 = .ok (.iadd, 1) := by decide +kernel
theorem dX1_weigh_107 : decode cX1_weigh 107 = .ok (.aaload, 1) := by decide +kernel
theorem dX1_weigh_108 : decode cX1_weigh 108 = .ok (.iload 5, 2) := by decide +kernel
theorem dX1_weigh_110 : decode cX1_weigh 110 = .ok (.iaload, 1) := by decide +kernel
theorem dX1_weigh_111 : decode cX1_weigh 111 = .ok (.iastore, 1) := by decide +kernel
theorem dX1_weigh_112 : decode cX1_weigh 112 = .ok (.iinc 5 1, 3) := by decide +kernel
theorem dX1_weigh_115 : decode cX1_weigh 115 = .ok (.goto (-44), 3) := by decide +kernel
theorem dX1_weigh_118 : decode cX1_weigh 118 = .ok (.iinc 3 (-1), 3) := by decide +kernel
theorem dX1_weigh_121 : decode cX1_weigh 121 = .ok (.goto (-73), 3) := by decide +kernel
theorem dX1_weigh_124 : decode cX1_weigh 124 = .ok (.return_, 1) := by decide +kernel
set_option maxRecDepth 20000 in
theorem ggX1_leastFrom_X1_totalFrom : GoodIn wsX1_leastFrom wsX1_totalFrom := goodIn_r _ [13, 1, 14, 15, 3, 16, 17, 18, 19, 20, 21, 22, 23] (by decide +kernel) (by decide +kernel)
set_option maxRecDepth 20000 in
theorem gX1_leastFrom_X1_totalFrom : GoodIn wsX1_leastFrom (wsV RX1 52 RX1 yX1_totalFrom wsX1_totalFrom) := goodIn_app (goodIn_of _ (by decide +kernel)) ggX1_leastFrom_X1_totalFrom
theorem dX1_leastFrom_0 : decode cX1_leastFrom 0 = .ok (.aload_n 0, 1) := by decide +kernel
theorem dX1_leastFrom_1 : decode cX1_leastFrom 1 = .ok (.getfield 9, 3) := by decide +kernel
theorem dX1_leastFrom_4 : decode cX1_leastFrom 4 = .ok (.getfield 49, 3) := by decide +kernel
theorem dX1_leastFrom_7 : decode cX1_leastFrom 7 = .ok (.iload_n 1, 1) := by decide +kernel
theorem dX1_leastFrom_8 : decode cX1_leastFrom 8 = .ok (.iaload, 1) := by decide +kernel
theorem dX1_leastFrom_9 : decode cX1_leastFrom 9 = .ok (.aload_n 0, 1) := by decide +kernel
theorem dX1_leastFrom_10 : decode cX1_leastFrom 10 = .ok (.getfield 21, 3) := by decide +kernel
theorem dX1_leastFrom_13 : decode cX1_leastFrom 13 = .ok (.iload_n 1, 1) := by decide +kernel
theorem dX1_leastFrom_14 : decode cX1_leastFrom 14 = .ok (.iconst 1, 1) := by decide +kernel
theorem dX1_leastFrom_15 : decode cX1_leastFrom 15 = .ok (.iadd, 1) := by decide +kernel
theorem dX1_leastFrom_16 : decode cX1_leastFrom 16 = .ok (.aaload, 1) := by decide +kernel
theorem dX1_leastFrom_17 : decode cX1_leastFrom 17 = .ok (.iload_n 2, 1) := by decide +kernel
theorem dX1_leastFrom_18 : decode cX1_leastFrom 18 = .ok (.iaload, 1) := by decide +kernel
theorem dX1_leastFrom_19 : decode cX1_leastFrom 19 = .ok (.iadd, 1) := by decide +kernel
theorem dX1_leastFrom_20 : decode cX1_leastFrom 20 = .ok (.istore_n 3, 1) := by decide +kernel
theorem dX1_leastFrom_21 : decode cX1_leastFrom 21 = .ok (.iconst 0, 1) := by decide +kernel
theorem dX1_leastFrom_22 : decode cX1_leastFrom 22 = .ok (.istore 4, 2) := by decide +kernel
theorem dX1_leastFrom_24 : decode cX1_leastFrom 24 = .ok (.iload 4, 2) := by decide +kernel
theorem dX1_leastFrom_26 : decode cX1_leastFrom 26 = .ok (.aload_n 0, 1) := by decide +kernel
theorem dX1_leastFrom_27 : decode cX1_leastFrom 27 = .ok (.getfield 9, 3) := by decide +kernel
theorem dX1_leastFrom_30 : decode cX1_leastFrom 30 = .ok (.getfield 38, 3) := by decide +kernel
theorem dX1_leastFrom_33 : decode cX1_leastFrom 33 = .ok (.if_icmp .ge 22, 3) := by decide +kernel
theorem dX1_leastFrom_36 : decode cX1_leastFrom 36 = .ok (.iload_n 3, 1) := by decide +kernel
theorem dX1_leastFrom_37 : decode cX1_leastFrom 37 = .ok (.aload_n 0, 1) := by decide +kernel
theorem dX1_leastFrom_38 : decode cX1_leastFrom 38 = .ok (.iload_n 1, 1) := by decide +kernel
theorem dX1_leastFrom_39 : decode cX1_leastFrom 39 = .ok (.iload 4, 2) := by decide +kernel
theorem dX1_leastFrom_41 : decode cX1_leastFrom 41 = .ok (.iload_n 2, 1) := by decide +kernel
theorem dX1_leastFrom_42 : decode cX1_leastFrom 42 = .ok (.invokevirtual 52, 3) := by decide +kernel
theorem dX1_leastFrom_45 : decode cX1_leastFrom 45 = .ok (.invokestatic 56, 3) := by decide +kernel
theorem dX1_leastFrom_48 : decode cX1_leastFrom 48 = .ok (.istore_n 3, 1) := by decide +kernel
theorem dX1_leastFrom_49 : decode cX1_leastFrom 49 = .ok (.iinc 4 1, 3) := by decide +kernel
theorem dX1_leastFrom_52 : decode cX1_leastFrom 52 = .ok (.goto (-28), 3) := by decide +kernel
theorem dX1_leastFrom_55 : decode cX1_leastFrom 55 = .ok (.iload_n 3, 1) := by decide +kernel
theorem dX1_leastFrom_56 : decode cX1_leastFrom 56 = .ok (.ireturn, 1) := by decide +kernel
theorem dX1_totalFrom_0 : decode cX1_totalFrom 0 = .ok (.aload_n 0, 1) := by decide +kernel
theorem dX1_totalFrom_1 : decode cX1_totalFrom 1 = .ok (.getfield 9, 3) := by decide +kernel
theorem dX1_totalFrom_4 : decode cX1_totalFrom 4 = .ok (.getfield 61, 3) := by decide +kernel
theorem dX1_totalFrom_7 : decode cX1_totalFrom 7 = .ok (.iload_n 1, 1) := by decide +kernel
theorem dX1_totalFrom_8 : decode cX1_totalFrom 8 = .ok (.aaload, 1) := by decide +kernel
theorem dX1_totalFrom_9 : decode cX1_totalFrom 9 = .ok (.iload_n 2, 1) := by decide +kernel
theorem dX1_totalFrom_10 : decode cX1_totalFrom 10 = .ok (.iaload, 1) := by decide +kernel
theorem dX1_totalFrom_11 : decode cX1_totalFrom 11 = .ok (.istore 4, 2) := by decide +kernel
theorem dX1_totalFrom_13 : decode cX1_totalFrom 13 = .ok (.iload 4, 2) := by decide +kernel
theorem dX1_totalFrom_15 : decode cX1_totalFrom 15 = .ok (.iconst (-1), 1) := by decide +kernel
theorem dX1_totalFrom_16 : decode cX1_totalFrom 16 = .ok (.if_icmp .eq 12, 3) := by decide +kernel
theorem dX1_totalFrom_19 : decode cX1_totalFrom 19 = .ok (.iload_n 3, 1) := by decide +kernel
theorem dX1_totalFrom_20 : decode cX1_totalFrom 20 = .ok (.iload_n 2, 1) := by decide +kernel
theorem dX1_totalFrom_21 : decode cX1_totalFrom 21 = .ok (.ishr, 1) := by decide +kernel
theorem dX1_totalFrom_22 : decode cX1_totalFrom 22 = .ok (.iconst 1, 1) := by decide +kernel
theorem dX1_totalFrom_23 : decode cX1_totalFrom 23 = .ok (.iand, 1) := by decide +kernel
theorem dX1_totalFrom_24 : decode cX1_totalFrom 24 = .ok (.iconst 1, 1) := by decide +kernel
theorem dX1_totalFrom_25 : decode cX1_totalFrom 25 = .ok (.if_icmp .ne 6, 3) := by decide +kernel
theorem dX1_totalFrom_28 : decode cX1_totalFrom 28 = .ok (.ldc 64, 2) := by decide +kernel
theorem dX1_totalFrom_30 : decode cX1_totalFrom 30 = .ok (.ireturn, 1) := by decide +kernel
theorem dX1_totalFrom_31 : decode cX1_totalFrom 31 = .ok (.iload 4, 2) := by decide +kernel
theorem dX1_totalFrom_33 : decode cX1_totalFrom 33 = .ok (.aload_n 0, 1) := by decide +kernel
theorem dX1_totalFrom_34 : decode cX1_totalFrom 34 = .ok (.getfield 21, 3) := by decide +kernel
theorem dX1_totalFrom_37 : decode cX1_totalFrom 37 = .ok (.iload_n 1, 1) := by decide +kernel
theorem dX1_totalFrom_38 : decode cX1_totalFrom 38 = .ok (.iconst 1, 1) := by decide +kernel
theorem dX1_totalFrom_39 : decode cX1_totalFrom 39 = .ok (.iadd, 1) := by decide +kernel
theorem dX1_totalFrom_40 : decode cX1_totalFrom 40 = .ok (.aaload, 1) := by decide +kernel
theorem dX1_totalFrom_41 : decode cX1_totalFrom 41 = .ok (.iload_n 3, 1) := by decide +kernel
theorem dX1_totalFrom_42 : decode cX1_totalFrom 42 = .ok (.iconst 1, 1) := by decide +kernel
theorem dX1_totalFrom_43 : decode cX1_totalFrom 43 = .ok (.iload_n 2, 1) := by decide +kernel
theorem dX1_totalFrom_44 : decode cX1_totalFrom 44 = .ok (.ishl, 1) := by decide +kernel
theorem dX1_totalFrom_45 : decode cX1_totalFrom 45 = .ok (.ior, 1) := by decide +kernel
theorem dX1_totalFrom_46 : decode cX1_totalFrom 46 = .ok (.iaload, 1) := by decide +kernel
theorem dX1_totalFrom_47 : decode cX1_totalFrom 47 = .ok (.iadd, 1) := by decide +kernel
theorem dX1_totalFrom_48 : decode cX1_totalFrom 48 = .ok (.ireturn, 1) := by decide +kernel
set_option maxRecDepth 20000 in
theorem ggX1_chooseFirst_X1_leastTotal : GoodIn wsX1_chooseFirst wsX1_leastTotal := goodIn_r _ [9, 2, 10, 11, 12, 13, 14, 15, 16, 17, 18, 8, 19, 20, 21, 22, 23, 24, 25, 3, 26, 27, 28, 29, 30, 31, 32, 33, 34, 35, 36, 37, 38, 39, 40, 45, 46, 47, 48, 49, 50, 51, 52] (by decide +kernel) (by decide +kernel)
set_option maxRecDepth 20000 in
theorem gX1_chooseFirst_X1_leastTotal : GoodIn wsX1_chooseFirst (wsV RX1 65 RX1 yX1_leastTotal wsX1_leastTotal) := goodIn_app (goodIn_of _ (by decide +kernel)) ggX1_chooseFirst_X1_leastTotal
set_option maxRecDepth 20000 in
theorem ggX1_chooseFirst_X1_lowestBestTask : GoodIn wsX1_chooseFirst wsX1_lowestBestTask := goodIn_r _ [44, 2, 25, 20, 35, 36, 37, 8, 38, 39, 40, 45, 46, 47, 48, 49, 50, 51, 52] (by decide +kernel) (by decide +kernel)
set_option maxRecDepth 20000 in
theorem gX1_chooseFirst_X1_lowestBestTask : GoodIn wsX1_chooseFirst (wsV RX1 71 RX1 yX1_lowestBestTask wsX1_lowestBestTask) := goodIn_app (goodIn_of _ (by decide +kernel)) ggX1_chooseFirst_X1_lowestBestTask
theorem dX1_chooseFirst_0 : decode cX1_chooseFirst 0 = .ok (.aload_n 0, 1) := by decide +kernel
theorem dX1_chooseFirst_1 : decode cX1_chooseFirst 1 = .ok (.aload_n 0, 1) := by decide +kernel
theorem dX1_chooseFirst_2 : decode cX1_chooseFirst 2 = .ok (.invokevirtual 65, 3) := by decide +kernel
theorem dX1_chooseFirst_5 : decode cX1_chooseFirst 5 = .ok (.putfield 68, 3) := by decide +kernel
theorem dX1_chooseFirst_8 : decode cX1_chooseFirst 8 = .ok (.iconst 0, 1) := by decide +kernel
theorem dX1_chooseFirst_9 : decode cX1_chooseFirst 9 = .ok (.istore_n 1, 1) := by decide +kernel
theorem dX1_chooseFirst_10 : decode cX1_chooseFirst 10 = .ok (.iconst 0, 1) := by decide +kernel
theorem dX1_chooseFirst_11 : decode cX1_chooseFirst 11 = .ok (.istore_n 2, 1) := by decide +kernel
theorem dX1_chooseFirst_12 : decode cX1_chooseFirst 12 = .ok (.iload_n 2, 1) := by decide +kernel
theorem dX1_chooseFirst_13 : decode cX1_chooseFirst 13 = .ok (.aload_n 0, 1) := by decide +kernel
theorem dX1_chooseFirst_14 : decode cX1_chooseFirst 14 = .ok (.getfield 9, 3) := by decide +kernel
theorem dX1_chooseFirst_17 : decode cX1_chooseFirst 17 = .ok (.getfield 42, 3) := by decide +kernel
theorem dX1_chooseFirst_20 : decode cX1_chooseFirst 20 = .ok (.if_icmp .ge 42, 3) := by decide +kernel
theorem dX1_chooseFirst_23 : decode cX1_chooseFirst 23 = .ok (.aload_n 0, 1) := by decide +kernel
theorem dX1_chooseFirst_24 : decode cX1_chooseFirst 24 = .ok (.getfield 15, 3) := by decide +kernel
theorem dX1_chooseFirst_27 : decode cX1_chooseFirst 27 = .ok (.iload_n 2, 1) := by decide +kernel
theorem dX1_chooseFirst_28 : decode cX1_chooseFirst 28 = .ok (.aload_n 0, 1) := by decide +kernel
theorem dX1_chooseFirst_29 : decode cX1_chooseFirst 29 = .ok (.iload_n 2, 1) := by decide +kernel
theorem dX1_chooseFirst_30 : decode cX1_chooseFirst 30 = .ok (.iload_n 1, 1) := by decide +kernel
theorem dX1_chooseFirst_31 : decode cX1_chooseFirst 31 = .ok (.invokevirtual 71, 3) := by decide +kernel
theorem dX1_chooseFirst_34 : decode cX1_chooseFirst 34 = .ok (.iastore, 1) := by decide +kernel
theorem dX1_chooseFirst_35 : decode cX1_chooseFirst 35 = .ok (.aload_n 0, 1) := by decide +kernel
theorem dX1_chooseFirst_36 : decode cX1_chooseFirst 36 = .ok (.getfield 15, 3) := by decide +kernel
theorem dX1_chooseFirst_39 : decode cX1_chooseFirst 39 = .ok (.iload_n 2, 1) := by decide +kernel
theorem dX1_chooseFirst_40 : decode cX1_chooseFirst 40 = .ok (.iaload, 1) := by decide +kernel
theorem dX1_chooseFirst_41 : decode cX1_chooseFirst 41 = .ok (.iconst (-1), 1) := by decide +kernel
theorem dX1_chooseFirst_42 : decode cX1_chooseFirst 42 = .ok (.if_icmp .eq 14, 3) := by decide +kernel
theorem dX1_chooseFirst_45 : decode cX1_chooseFirst 45 = .ok (.iload_n 1, 1) := by decide +kernel
theorem dX1_chooseFirst_46 : decode cX1_chooseFirst 46 = .ok (.iconst 1, 1) := by decide +kernel
theorem dX1_chooseFirst_47 : decode cX1_chooseFirst 47 = .ok (.aload_n 0, 1) := by decide +kernel
theorem dX1_chooseFirst_48 : decode cX1_chooseFirst 48 = .ok (.getfield 15, 3) := by decide +kernel
theorem dX1_chooseFirst_51 : decode cX1_chooseFirst 51 = .ok (.iload_n 2, 1) := by decide +kernel
theorem dX1_chooseFirst_52 : decode cX1_chooseFirst 52 = .ok (.iaload, 1) := by decide +kernel
theorem dX1_chooseFirst_53 : decode cX1_chooseFirst 53 = .ok (.ishl, 1) := by decide +kernel
theorem dX1_chooseFirst_54 : decode cX1_chooseFirst 54 = .ok (.ior, 1) := by decide +kernel
theorem dX1_chooseFirst_55 : decode cX1_chooseFirst 55 = .ok (.istore_n 1, 1) := by decide +kernel
theorem dX1_chooseFirst_56 : decode cX1_chooseFirst 56 = .ok (.iinc 2 1, 3) := by decide +kernel
theorem dX1_chooseFirst_59 : decode cX1_chooseFirst 59 = .ok (.goto (-47), 3) := by decide +kernel
theorem dX1_chooseFirst_62 : decode cX1_chooseFirst 62 = .ok (.return_, 1) := by decide +kernel
set_option maxRecDepth 20000 in
theorem ggX1_lowestBestTask_X1_totalFrom : GoodIn wsX1_lowestBestTask wsX1_totalFrom := goodIn_r _ [8, 1, 9, 10, 3, 11, 12, 13, 14, 15, 16, 17, 18] (by decide +kernel) (by decide +kernel)
set_option maxRecDepth 20000 in
theorem gX1_lowestBestTask_X1_totalFrom : GoodIn wsX1_lowestBestTask (wsV RX1 52 RX1 yX1_totalFrom wsX1_totalFrom) := goodIn_app (goodIn_of _ (by decide +kernel)) ggX1_lowestBestTask_X1_totalFrom
theorem dX1_lowestBestTask_0 : decode cX1_lowestBestTask 0 = .ok (.iconst 0, 1) := by decide +kernel
theorem dX1_lowestBestTask_1 : decode cX1_lowestBestTask 1 = .ok (.istore_n 3, 1) := by decide +kernel
theorem dX1_lowestBestTask_2 : decode cX1_lowestBestTask 2 = .ok (.iload_n 3, 1) := by decide +kernel
theorem dX1_lowestBestTask_3 : decode cX1_lowestBestTask 3 = .ok (.aload_n 0, 1) := by decide +kernel
theorem dX1_lowestBestTask_4 : decode cX1_lowestBestTask 4 = .ok (.getfield 9, 3) := by decide +kernel
theorem dX1_lowestBestTask_7 : decode cX1_lowestBestTask 7 = .ok (.getfield 38, 3) := by decide +kernel
theorem dX1_lowestBestTask_10 : decode cX1_lowestBestTask 10 = .ok (.if_icmp .ge 29, 3) := by decide +kernel
theorem dX1_lowestBestTask_13 : decode cX1_lowestBestTask 13 = .ok (.aload_n 0, 1) := by decide +kernel
theorem dX1_lowestBestTask_14 : decode cX1_lowestBestTask 14 = .ok (.iload_n 1, 1) := by decide +kernel
theorem dX1_lowestBestTask_15 : decode cX1_lowestBestTask 15 = .ok (.iload_n 3, 1) := by decide +kernel
theorem dX1_lowestBestTask_16 : decode cX1_lowestBestTask 16 = .ok (.iload_n 2, 1) := by decide +kernel
theorem dX1_lowestBestTask_17 : decode cX1_lowestBestTask 17 = .ok (.invokevirtual 52, 3) := by decide +kernel
theorem dX1_lowestBestTask_20 : decode cX1_lowestBestTask 20 = .ok (.aload_n 0, 1) := by decide +kernel
theorem dX1_lowestBestTask_21 : decode cX1_lowestBestTask 21 = .ok (.getfield 21, 3) := by decide +kernel
theorem dX1_lowestBestTask_24 : decode cX1_lowestBestTask 24 = .ok (.iload_n 1, 1) := by decide +kernel
theorem dX1_lowestBestTask_25 : decode cX1_lowestBestTask 25 = .ok (.aaload, 1) := by decide +kernel
theorem dX1_lowestBestTask_26 : decode cX1_lowestBestTask 26 = .ok (.iload_n 2, 1) := by decide +kernel
theorem dX1_lowestBestTask_27 : decode cX1_lowestBestTask 27 = .ok (.iaload, 1) := by decide +kernel
theorem dX1_lowestBestTask_28 : decode cX1_lowestBestTask 28 = .ok (.if_icmp .ne 5, 3) := by decide +kernel
theorem dX1_lowestBestTask_31 : decode cX1_lowestBestTask 31 = .ok (.iload_n 3, 1) := by decide +kernel
theorem dX1_lowestBestTask_32 : decode cX1_lowestBestTask 32 = .ok (.ireturn, 1) := by decide +kernel
theorem dX1_lowestBestTask_33 : decode cX1_lowestBestTask 33 = .ok (.iinc 3 1, 3) := by decide +kernel
theorem dX1_lowestBestTask_36 : decode cX1_lowestBestTask 36 = .ok (.goto (-34), 3) := by decide +kernel
theorem dX1_lowestBestTask_39 : decode cX1_lowestBestTask 39 = .ok (.iconst (-1), 1) := by decide +kernel
theorem dX1_lowestBestTask_40 : decode cX1_lowestBestTask 40 = .ok (.ireturn, 1) := by decide +kernel
theorem dX1_chosenPairs_0 : decode cX1_chosenPairs 0 = .ok (.iconst 0, 1) := by decide +kernel
theorem dX1_chosenPairs_1 : decode cX1_chosenPairs 1 = .ok (.istore_n 1, 1) := by decide +kernel
theorem dX1_chosenPairs_2 : decode cX1_chosenPairs 2 = .ok (.iconst 0, 1) := by decide +kernel
theorem dX1_chosenPairs_3 : decode cX1_chosenPairs 3 = .ok (.istore_n 2, 1) := by decide +kernel
theorem dX1_chosenPairs_4 : decode cX1_chosenPairs 4 = .ok (.iload_n 2, 1) := by decide +kernel
theorem dX1_chosenPairs_5 : decode cX1_chosenPairs 5 = .ok (.aload_n 0, 1) := by decide +kernel
theorem dX1_chosenPairs_6 : decode cX1_chosenPairs 6 = .ok (.getfield 9, 3) := by decide +kernel
theorem dX1_chosenPairs_9 : decode cX1_chosenPairs 9 = .ok (.getfield 42, 3) := by decide +kernel
theorem dX1_chosenPairs_12 : decode cX1_chosenPairs 12 = .ok (.if_icmp .ge 22, 3) := by decide +kernel
theorem dX1_chosenPairs_15 : decode cX1_chosenPairs 15 = .ok (.aload_n 0, 1) := by decide +kernel
theorem dX1_chosenPairs_16 : decode cX1_chosenPairs 16 = .ok (.getfield 15, 3) := by decide +kernel
theorem dX1_chosenPairs_19 : decode cX1_chosenPairs 19 = .ok (.iload_n 2, 1) := by decide +kernel
theorem dX1_chosenPairs_20 : decode cX1_chosenPairs 20 = .ok (.iaload, 1) := by decide +kernel
theorem dX1_chosenPairs_21 : decode cX1_chosenPairs 21 = .ok (.iconst (-1), 1) := by decide +kernel
theorem dX1_chosenPairs_22 : decode cX1_chosenPairs 22 = .ok (.if_icmp .eq 6, 3) := by decide +kernel
theorem dX1_chosenPairs_25 : decode cX1_chosenPairs 25 = .ok (.iinc 1 1, 3) := by decide +kernel
theorem dX1_chosenPairs_28 : decode cX1_chosenPairs 28 = .ok (.iinc 2 1, 3) := by decide +kernel
theorem dX1_chosenPairs_31 : decode cX1_chosenPairs 31 = .ok (.goto (-27), 3) := by decide +kernel
theorem dX1_chosenPairs_34 : decode cX1_chosenPairs 34 = .ok (.iload_n 1, 1) := by decide +kernel
theorem dX1_chosenPairs_35 : decode cX1_chosenPairs 35 = .ok (.ireturn, 1) := by decide +kernel
