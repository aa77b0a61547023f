theorem dX7_init_0 : decode cX7_init 0 = .ok (.aload_n 0, 1) := by decide +kernel
theorem dX7_init_1 : decode cX7_init 1 = .ok (.invokespecial 1, 3) := by decide +kernel
theorem dX7_init_4 : decode cX7_init 4 = .ok (.aload_n 0, 1) := by decide +kernel
theorem dX7_init_5 : decode cX7_init 5 = .ok (.bipush 58, 2) := by decide +kernel
theorem dX7_init_7 : decode cX7_init 7 = .ok (.newarray .int, 2) := by decide +kernel
theorem dX7_init_9 : decode cX7_init 9 = .ok (.putfield 7, 3) := by decide +kernel
theorem dX7_init_12 : decode cX7_init 12 = .ok (.aload_n 0, 1) := by decide +kernel
theorem dX7_init_13 : decode cX7_init 13 = .ok (.sipush 232, 3) := by decide +kernel
theorem dX7_init_16 : decode cX7_init 16 = .ok (.newarray .int, 2) := by decide +kernel
theorem dX7_init_18 : decode cX7_init 18 = .ok (.putfield 13, 3) := by decide +kernel
theorem dX7_init_21 : decode cX7_init 21 = .ok (.aload_n 0, 1) := by decide +kernel
theorem dX7_init_22 : decode cX7_init 22 = .ok (.bipush 80, 2) := by decide +kernel
theorem dX7_init_24 : decode cX7_init 24 = .ok (.newarray .int, 2) := by decide +kernel
theorem dX7_init_26 : decode cX7_init 26 = .ok (.putfield 16, 3) := by decide +kernel
theorem dX7_init_29 : decode cX7_init 29 = .ok (.aload_n 0, 1) := by decide +kernel
theorem dX7_init_30 : decode cX7_init 30 = .ok (.sipush 256, 3) := by decide +kernel
theorem dX7_init_33 : decode cX7_init 33 = .ok (.newarray .int, 2) := by decide +kernel
theorem dX7_init_35 : decode cX7_init 35 = .ok (.putfield 19, 3) := by decide +kernel
theorem dX7_init_38 : decode cX7_init 38 = .ok (.aload_n 0, 1) := by decide +kernel
theorem dX7_init_39 : decode cX7_init 39 = .ok (.bipush (-4), 2) := by decide +kernel
theorem dX7_init_41 : decode cX7_init 41 = .ok (.putfield 22, 3) := by decide +kernel
theorem dX7_init_44 : decode cX7_init 44 = .ok (.aload_n 0, 1) := by decide +kernel
theorem dX7_init_45 : decode cX7_init 45 = .ok (.bipush (-4), 2) := by decide +kernel
theorem dX7_init_47 : decode cX7_init 47 = .ok (.putfield 26, 3) := by decide +kernel
theorem dX7_init_50 : decode cX7_init 50 = .ok (.aload_n 0, 1) := by decide +kernel
theorem dX7_init_51 : decode cX7_init 51 = .ok (.bipush (-4), 2) := by decide +kernel
theorem dX7_init_53 : decode cX7_init 53 = .ok (.putfield 29, 3) := by decide +kernel
theorem dX7_init_56 : decode cX7_init 56 = .ok (.aload_n 0, 1) := by decide +kernel
theorem dX7_init_57 : decode cX7_init 57 = .ok (.bipush 7, 2) := by decide +kernel
theorem dX7_init_59 : decode cX7_init 59 = .ok (.newarray .int, 2) := by decide +kernel
theorem dX7_init_61 : decode cX7_init 61 = .ok (.putfield 32, 3) := by decide +kernel
theorem dX7_init_64 : decode cX7_init 64 = .ok (.aload_n 0, 1) := by decide +kernel
theorem dX7_init_65 : decode cX7_init 65 = .ok (.bipush 7, 2) := by decide +kernel
theorem dX7_init_67 : decode cX7_init 67 = .ok (.newarray .int, 2) := by decide +kernel
theorem dX7_init_69 : decode cX7_init 69 = .ok (.putfield 35, 3) := by decide +kernel
theorem dX7_init_72 : decode cX7_init 72 = .ok (.aload_n 0, 1) := by decide +kernel
theorem dX7_init_73 : decode cX7_init 73 = .ok (.bipush 49, 2) := by decide +kernel
theorem dX7_init_75 : decode cX7_init 75 = .ok (.newarray .int, 2) := by decide +kernel
theorem dX7_init_77 : decode cX7_init 77 = .ok (.putfield 38, 3) := by decide +kernel
theorem dX7_init_80 : decode cX7_init 80 = .ok (.aload_n 0, 1) := by decide +kernel
theorem dX7_init_81 : decode cX7_init 81 = .ok (.bipush 7, 2) := by decide +kernel
theorem dX7_init_83 : decode cX7_init 83 = .ok (.newarray .int, 2) := by decide +kernel
theorem dX7_init_85 : decode cX7_init 85 = .ok (.putfield 41, 3) := by decide +kernel
theorem dX7_init_88 : decode cX7_init 88 = .ok (.aload_n 0, 1) := by decide +kernel
theorem dX7_init_89 : decode cX7_init 89 = .ok (.iconst 0, 1) := by decide +kernel
theorem dX7_init_90 : decode cX7_init 90 = .ok (.putfield 44, 3) := by decide +kernel
theorem dX7_init_93 : decode cX7_init 93 = .ok (.return_, 1) := by decide +kernel
theorem dX7_in_0 : decode cX7_in 0 = .ok (.iload_n 0, 1) := by decide +kernel
theorem dX7_in_1 : decode cX7_in 1 = .ok (.iload_n 1, 1) := by decide +kernel
theorem dX7_in_2 : decode cX7_in 2 = .ok (.if_icmp .lt 12, 3) := by decide +kernel
theorem dX7_in_5 : decode cX7_in 5 = .ok (.iload_n 0, 1) := by decide +kernel
theorem dX7_in_6 : decode cX7_in 6 = .ok (.iload_n 2, 1) := by decide +kernel
theorem dX7_in_7 : decode cX7_in 7 = .ok (.if_icmp .gt 7, 3) := by decide +kernel
theorem dX7_in_10 : decode cX7_in 10 = .ok (.iconst 1, 1) := by decide +kernel
theorem dX7_in_11 : decode cX7_in 11 = .ok (.goto 4, 3) := by decide +kernel
theorem dX7_in_14 : decode cX7_in 14 = .ok (.iconst 0, 1) := by decide +kernel
theorem dX7_in_15 : decode cX7_in 15 = .ok (.ireturn, 1) := by decide +kernel
theorem dX7_changes_0 : decode cX7_changes 0 = .ok (.aload_n 0, 1) := by decide +kernel
theorem dX7_changes_1 : decode cX7_changes 1 = .ok (.getfield 44, 3) := by decide +kernel
theorem dX7_changes_4 : decode cX7_changes 4 = .ok (.iconst 4, 1) := by decide +kernel
theorem dX7_changes_5 : decode cX7_changes 5 = .ok (.if_icmp .ne 43, 3) := by decide +kernel
theorem dX7_changes_8 : decode cX7_changes 8 = .ok (.iconst 0, 1) := by decide +kernel
theorem dX7_changes_9 : decode cX7_changes 9 = .ok (.istore_n 1, 1) := by decide +kernel
theorem dX7_changes_10 : decode cX7_changes 10 = .ok (.iload_n 1, 1) := by decide +kernel
theorem dX7_changes_11 : decode cX7_changes 11 = .ok (.sipush 174, 3) := by decide +kernel
theorem dX7_changes_14 : decode cX7_changes 14 = .ok (.if_icmp .ge 24, 3) := by decide +kernel
theorem dX7_changes_17 : decode cX7_changes 17 = .ok (.aload_n 0, 1) := by decide +kernel
theorem dX7_changes_18 : decode cX7_changes 18 = .ok (.getfield 13, 3) := by decide +kernel
theorem dX7_changes_21 : decode cX7_changes 21 = .ok (.iload_n 1, 1) := by decide +kernel
theorem dX7_changes_22 : decode cX7_changes 22 = .ok (.aload_n 0, 1) := by decide +kernel
theorem dX7_changes_23 : decode cX7_changes 23 = .ok (.getfield 13, 3) := by decide +kernel
theorem dX7_changes_26 : decode cX7_changes 26 = .ok (.iload_n 1, 1) := by decide +kernel
theorem dX7_changes_27 : decode cX7_changes 27 = .ok (.bipush 58, 2) := by decide +kernel
theorem dX7_changes_29 : decode cX7_changes 29 = .ok (.iadd, 1) := by decide +kernel
theorem dX7_changes_30 : decode cX7_changes 30 = .ok (.iaload, 1) := by decide +kernel
theorem dX7_changes_31 : decode cX7_changes 31 = .ok (.iastore, 1) := by decide +kernel
theorem dX7_changes_32 : decode cX7_changes 32 = .ok (.iinc 1 1, 3) := by decide +kernel
theorem dX7_changes_35 : decode cX7_changes 35 = .ok (.goto (-25), 3) := by decide +kernel
theorem dX7_changes_38 : decode cX7_changes 38 = .ok (.aload_n 0, 1) := by decide +kernel
theorem dX7_changes_39 : decode cX7_changes 39 = .ok (.dup, 1) := by decide +kernel
theorem dX7_changes_40 : decode cX7_changes 40 = .ok (.getfield 44, 3) := by decide +kernel
theorem dX7_changes_43 : decode cX7_changes 43 = .ok (.iconst 1, 1) := by decide +kernel
theorem dX7_changes_44 : decode cX7_changes 44 = .ok (.isub, 1) := by decide +kernel
theorem dX7_changes_45 : decode cX7_changes 45 = .ok (.putfield 44, 3) := by decide +kernel
theorem dX7_changes_48 : decode cX7_changes 48 = .ok (.iconst 0, 1) := by decide +kernel
theorem dX7_changes_49 : decode cX7_changes 49 = .ok (.istore_n 1, 1) := by decide +kernel
theorem dX7_changes_50 : decode cX7_changes 50 = .ok (.iload_n 1, 1) := by decide +kernel
theorem dX7_changes_51 : decode cX7_changes 51 = .ok (.bipush 58, 2) := by decide +kernel
theorem dX7_changes_53 : decode cX7_changes 53 = .ok (.if_icmp .ge 29, 3) := by decide +kernel
theorem dX7_changes_56 : decode cX7_changes 56 = .ok (.aload_n 0, 1) := by decide +kernel
theorem dX7_changes_57 : decode cX7_changes 57 = .ok (.getfield 13, 3) := by decide +kernel
theorem dX7_changes_60 : decode cX7_changes 60 = .ok (.bipush 58, 2) := by decide +kernel
theorem dX7_changes_62 : decode cX7_changes 62 = .ok (.aload_n 0, 1) := by decide +kernel
theorem dX7_changes_63 : decode cX7_changes 63 = .ok (.getfield 44, 3) := by decide +kernel
theorem dX7_changes_66 : decode cX7_changes 66 = .ok (.imul, 1) := by decide +kernel
theorem dX7_changes_67 : decode cX7_changes 67 = .ok (.iload_n 1, 1) := by decide +kernel
theorem dX7_changes_68 : decode cX7_changes 68 = .ok (.iadd, 1) := by decide +kernel
theorem dX7_changes_69 : decode cX7_changes 69 = .ok (.aload_n 0, 1) := by decide +kernel
theorem dX7_changes_70 : decode cX7_changes 70 = .ok (.getfield 7, 3) := by decide +kernel
theorem dX7_changes_73 : decode cX7_changes 73 = .ok (.iload_n 1, 1) := by decide +kernel
theorem dX7_changes_74 : decode cX7_changes 74 = .ok (.iaload, 1) := by decide +kernel
theorem dX7_changes_75 : decode cX7_changes 75 = .ok (.iastore, 1) := by decide +kernel
theorem dX7_changes_76 : decode cX7_changes 76 = .ok (.iinc 1 1, 3) := by decide +kernel
theorem dX7_changes_79 : decode cX7_changes 79 = .ok (.goto (-29), 3) := by decide +kernel
theorem dX7_changes_82 : decode cX7_changes 82 = .ok (.aload_n 0, 1) := by decide +kernel
theorem dX7_changes_83 : decode cX7_changes 83 = .ok (.dup, 1) := by decide +kernel
theorem dX7_changes_84 : decode cX7_changes 84 = .ok (.getfield 44, 3) := by decide +kernel
theorem dX7_changes_87 : decode cX7_changes 87 = .ok (.iconst 1, 1) := by decide +kernel
theorem dX7_changes_88 : decode cX7_changes 88 = .ok (.iadd, 1) := by decide +kernel
theorem dX7_changes_89 : decode cX7_changes 89 = .ok (.putfield 44, 3) := by decide +kernel
theorem dX7_changes_92 : decode cX7_changes 92 = .ok (.return_, 1) := by decide +kernel
theorem dX7_isWorker_0 : decode cX7_isWorker 0 = .ok (.iload_n 1, 1) := by decide +kernel
theorem dX7_isWorker_1 : decode cX7_isWorker 1 = .ok (.ifCond .lt 17, 3) := by decide +kernel
theorem dX7_isWorker_4 : decode cX7_isWorker 4 = .ok (.iload_n 1, 1) := by decide +kernel
theorem dX7_isWorker_5 : decode cX7_isWorker 5 = .ok (.aload_n 0, 1) := by decide +kernel
theorem dX7_isWorker_6 : decode cX7_isWorker 6 = .ok (.getfield 7, 3) := by decide +kernel
theorem dX7_isWorker_9 : decode cX7_isWorker 9 = .ok (.iconst 0, 1) := by decide +kernel
theorem dX7_isWorker_10 : decode cX7_isWorker 10 = .ok (.iaload, 1) := by decide +kernel
theorem dX7_isWorker_11 : decode cX7_isWorker 11 = .ok (.if_icmp .ge 7, 3) := by decide +kernel
theorem dX7_isWorker_14 : decode cX7_isWorker 14 = .ok (.iconst 1, 1) := by decide +kernel
theorem dX7_isWorker_15 : decode cX7_isWorker 15 = .ok (.goto 4, 3) := by decide +kernel
theorem dX7_isWorker_18 : decode cX7_isWorker 18 = .ok (.iconst 0, 1) := by decide +kernel
theorem dX7_isWorker_19 : decode cX7_isWorker 19 = .ok (.ireturn, 1) := by decide +kernel
theorem dX7_isTask_0 : decode cX7_isTask 0 = .ok (.iload_n 1, 1) := by decide +kernel
theorem dX7_isTask_1 : decode cX7_isTask 1 = .ok (.ifCond .lt 17, 3) := by decide +kernel
theorem dX7_isTask_4 : decode cX7_isTask 4 = .ok (.iload_n 1, 1) := by decide +kernel
theorem dX7_isTask_5 : decode cX7_isTask 5 = .ok (.aload_n 0, 1) := by decide +kernel
theorem dX7_isTask_6 : decode cX7_isTask 6 = .ok (.getfield 7, 3) := by decide +kernel
theorem dX7_isTask_9 : decode cX7_isTask 9 = .ok (.iconst 1, 1) := by decide +kernel
theorem dX7_isTask_10 : decode cX7_isTask 10 = .ok (.iaload, 1) := by decide +kernel
theorem dX7_isTask_11 : decode cX7_isTask 11 = .ok (.if_icmp .ge 7, 3) := by decide +kernel
theorem dX7_isTask_14 : decode cX7_isTask 14 = .ok (.iconst 1, 1) := by decide +kernel
theorem dX7_isTask_15 : decode cX7_isTask 15 = .ok (.goto 4, 3) := by decide +kernel
theorem dX7_isTask_18 : decode cX7_isTask 18 = .ok (.iconst 0, 1) := by decide +kernel
theorem dX7_isTask_19 : decode cX7_isTask 19 = .ok (.ireturn, 1) := by decide +kernel
theorem dX7_of_0 : decode cX7_of 0 = .ok (.aload_n 0, 1) := by decide +kernel
theorem dX7_of_1 : decode cX7_of 1 = .ok (.getfield 7, 3) := by decide +kernel
theorem dX7_of_4 : decode cX7_of 4 = .ok (.bipush 9, 2) := by decide +kernel
theorem dX7_of_6 : decode cX7_of 6 = .ok (.bipush 7, 2) := by decide +kernel
theorem dX7_of_8 : decode cX7_of 8 = .ok (.iload_n 1, 1) := by decide +kernel
theorem dX7_of_9 : decode cX7_of 9 = .ok (.imul, 1) := by decide +kernel
theorem dX7_of_10 : decode cX7_of 10 = .ok (.iadd, 1) := by decide +kernel
theorem dX7_of_11 : decode cX7_of 11 = .ok (.iload_n 2, 1) := by decide +kernel
theorem dX7_of_12 : decode cX7_of 12 = .ok (.iadd, 1) := by decide +kernel
theorem dX7_of_13 : decode cX7_of 13 = .ok (.iaload, 1) := by decide +kernel
theorem dX7_of_14 : decode cX7_of 14 = .ok (.ireturn, 1) := by decide +kernel
set_option maxRecDepth 20000 in
theorem ggX7_costHere_X7_of : GoodIn wsX7_costHere wsX7_of := goodIn_r _ [8, 9, 10, 11, 12, 13, 14, 15, 16, 17, 18, 19, 20, 21, 22, 23, 24, 25, 26, 27] (by decide +kernel) (by decide +kernel)
set_option maxRecDepth 20000 in
theorem gX7_costHere_X7_of : GoodIn wsX7_costHere (wsV RX7 47 RX7 yX7_of wsX7_of) := goodIn_app (goodIn_of _ (by decide +kernel)) ggX7_costHere_X7_of
theorem dX7_costHere_0 : decode cX7_costHere 0 = .ok (.iload_n 1, 1) := by decide +kernel
theorem dX7_costHere_1 : decode cX7_costHere 1 = .ok (.aload_n 0, 1) := by decide +kernel
theorem dX7_costHere_2 : decode cX7_costHere 2 = .ok (.getfield 26, 3) := by decide +kernel
theorem dX7_costHere_5 : decode cX7_costHere 5 = .ok (.if_icmp .ne 15, 3) := by decide +kernel
theorem dX7_costHere_8 : decode cX7_costHere 8 = .ok (.iload_n 2, 1) := by decide +kernel
theorem dX7_costHere_9 : decode cX7_costHere 9 = .ok (.aload_n 0, 1) := by decide +kernel
theorem dX7_costHere_10 : decode cX7_costHere 10 = .ok (.getfield 29, 3) := by decide +kernel
theorem dX7_costHere_13 : decode cX7_costHere 13 = .ok (.if_icmp .ne 7, 3) := by decide +kernel
theorem dX7_costHere_16 : decode cX7_costHere 16 = .ok (.iconst (-1), 1) := by decide +kernel
theorem dX7_costHere_17 : decode cX7_costHere 17 = .ok (.goto 22, 3) := by decide +kernel
theorem dX7_costHere_20 : decode cX7_costHere 20 = .ok (.aload_n 0, 1) := by decide +kernel
theorem dX7_costHere_21 : decode cX7_costHere 21 = .ok (.iload_n 1, 1) := by decide +kernel
theorem dX7_costHere_22 : decode cX7_costHere 22 = .ok (.iload_n 2, 1) := by decide +kernel
theorem dX7_costHere_23 : decode cX7_costHere 23 = .ok (.bipush 7, 2) := by decide +kernel
theorem dX7_costHere_25 : decode cX7_costHere 25 = .ok (.if_icmp .ne 10, 3) := by decide +kernel
theorem dX7_costHere_28 : decode cX7_costHere 28 = .ok (.aload_n 0, 1) := by decide +kernel
theorem dX7_costHere_29 : decode cX7_costHere 29 = .ok (.getfield 22, 3) := by decide +kernel
theorem dX7_costHere_32 : decode cX7_costHere 32 = .ok (.goto 4, 3) := by decide +kernel
theorem dX7_costHere_35 : decode cX7_costHere 35 = .ok (.iload_n 2, 1) := by decide +kernel
theorem dX7_costHere_36 : decode cX7_costHere 36 = .ok (.invokevirtual 47, 3) := by decide +kernel
theorem dX7_costHere_39 : decode cX7_costHere 39 = .ok (.ireturn, 1) := by decide +kernel
set_option maxRecDepth 20000 in
theorem ggX7_leastFor_X7_costHere : GoodIn wsX7_leastFor wsX7_costHere := goodIn_r _ [8, 9, 10, 11, 12, 13, 14, 7, 15, 3, 16, 17, 18, 19, 20, 21, 22, 23, 24, 25, 26, 27, 28, 29, 30, 31, 32, 33] (by decide +kernel) (by decide +kernel)
set_option maxRecDepth 20000 in
theorem gX7_leastFor_X7_costHere : GoodIn wsX7_leastFor (wsV RX7 52 RX7 yX7_costHere wsX7_costHere) := goodIn_app (goodIn_of _ (by decide +kernel)) ggX7_leastFor_X7_costHere
theorem dX7_leastFor_0 : decode cX7_leastFor 0 = .ok (.iconst 0, 1) := by decide +kernel
theorem dX7_leastFor_1 : decode cX7_leastFor 1 = .ok (.istore_n 3, 1) := by decide +kernel
theorem dX7_leastFor_2 : decode cX7_leastFor 2 = .ok (.iload_n 3, 1) := by decide +kernel
theorem dX7_leastFor_3 : decode cX7_leastFor 3 = .ok (.sipush 256, 3) := by decide +kernel
theorem dX7_leastFor_6 : decode cX7_leastFor 6 = .ok (.if_icmp .ge 25, 3) := by decide +kernel
theorem dX7_leastFor_9 : decode cX7_leastFor 9 = .ok (.aload_n 0, 1) := by decide +kernel
theorem dX7_leastFor_10 : decode cX7_leastFor 10 = .ok (.getfield 19, 3) := by decide +kernel
theorem dX7_leastFor_13 : decode cX7_leastFor 13 = .ok (.iload_n 3, 1) := by decide +kernel
theorem dX7_leastFor_14 : decode cX7_leastFor 14 = .ok (.iload_n 3, 1) := by decide +kernel
theorem dX7_leastFor_15 : decode cX7_leastFor 15 = .ok (.ifCond .ne 7, 3) := by decide +kernel
theorem dX7_leastFor_18 : decode cX7_leastFor 18 = .ok (.iconst 0, 1) := by decide +kernel
theorem dX7_leastFor_19 : decode cX7_leastFor 19 = .ok (.goto 5, 3) := by decide +kernel
theorem dX7_leastFor_22 : decode cX7_leastFor 22 = .ok (.ldc 51, 2) := by decide +kernel
theorem dX7_leastFor_24 : decode cX7_leastFor 24 = .ok (.iastore, 1) := by decide +kernel
theorem dX7_leastFor_25 : decode cX7_leastFor 25 = .ok (.iinc 3 1, 3) := by decide +kernel
theorem dX7_leastFor_28 : decode cX7_leastFor 28 = .ok (.goto (-26), 3) := by decide +kernel
theorem dX7_leastFor_31 : decode cX7_leastFor 31 = .ok (.iconst 0, 1) := by decide +kernel
theorem dX7_leastFor_32 : decode cX7_leastFor 32 = .ok (.istore_n 3, 1) := by decide +kernel
theorem dX7_leastFor_33 : decode cX7_leastFor 33 = .ok (.iload_n 3, 1) := by decide +kernel
theorem dX7_leastFor_34 : decode cX7_leastFor 34 = .ok (.aload_n 0, 1) := by decide +kernel
theorem dX7_leastFor_35 : decode cX7_leastFor 35 = .ok (.getfield 7, 3) := by decide +kernel
theorem dX7_leastFor_38 : decode cX7_leastFor 38 = .ok (.iconst 0, 1) := by decide +kernel
theorem dX7_leastFor_39 : decode cX7_leastFor 39 = .ok (.iaload, 1) := by decide +kernel
theorem dX7_leastFor_40 : decode cX7_leastFor 40 = .ok (.if_icmp .ge 149, 3) := by decide +kernel
theorem dX7_leastFor_43 : decode cX7_leastFor 43 = .ok (.sipush 255, 3) := by decide +kernel
theorem dX7_leastFor_46 : decode cX7_leastFor 46 = .ok (.istore 4, 2) := by decide +kernel
theorem dX7_leastFor_48 : decode cX7_leastFor 48 = .ok (.iload 4, 2) := by decide +kernel
theorem dX7_leastFor_50 : decode cX7_leastFor 50 = .ok (.ifCond .lt 133, 3) := by decide +kernel
theorem dX7_leastFor_53 : decode cX7_leastFor 53 = .ok (.iload_n 1, 1) := by decide +kernel
theorem dX7_leastFor_54 : decode cX7_leastFor 54 = .ok (.iload_n 3, 1) := by decide +kernel
theorem dX7_leastFor_55 : decode cX7_leastFor 55 = .ok (.ishr, 1) := by decide +kernel
theorem dX7_leastFor_56 : decode cX7_leastFor 56 = .ok (.iconst 1, 1) := by decide +kernel
theorem dX7_leastFor_57 : decode cX7_leastFor 57 = .ok (.iand, 1) := by decide +kernel
theorem dX7_leastFor_58 : decode cX7_leastFor 58 = .ok (.iconst 1, 1) := by decide +kernel
theorem dX7_leastFor_59 : decode cX7_leastFor 59 = .ok (.if_icmp .ne 124, 3) := by decide +kernel
theorem dX7_leastFor_62 : decode cX7_leastFor 62 = .ok (.aload_n 0, 1) := by decide +kernel
theorem dX7_leastFor_63 : decode cX7_leastFor 63 = .ok (.getfield 19, 3) := by decide +kernel
theorem dX7_leastFor_66 : decode cX7_leastFor 66 = .ok (.iload 4, 2) := by decide +kernel
theorem dX7_leastFor_68 : decode cX7_leastFor 68 = .ok (.iaload, 1) := by decide +kernel
theorem dX7_leastFor_69 : decode cX7_leastFor 69 = .ok (.aload_n 0, 1) := by decide +kernel
theorem dX7_leastFor_70 : decode cX7_leastFor 70 = .ok (.getfield 7, 3) := by decide +kernel
theorem dX7_leastFor_73 : decode cX7_leastFor 73 = .ok (.iconst 2, 1) := by decide +kernel
theorem dX7_leastFor_74 : decode cX7_leastFor 74 = .ok (.iload_n 3, 1) := by decide +kernel
theorem dX7_leastFor_75 : decode cX7_leastFor 75 = .ok (.iadd, 1) := by decide +kernel
theorem dX7_leastFor_76 : decode cX7_leastFor 76 = .ok (.iaload, 1) := by decide +kernel
theorem dX7_leastFor_77 : decode cX7_leastFor 77 = .ok (.iadd, 1) := by decide +kernel
theorem dX7_leastFor_78 : decode cX7_leastFor 78 = .ok (.istore 5, 2) := by decide +kernel
theorem dX7_leastFor_80 : decode cX7_leastFor 80 = .ok (.iconst 0, 1) := by decide +kernel
theorem dX7_leastFor_81 : decode cX7_leastFor 81 = .ok (.istore 6, 2) := by decide +kernel
theorem dX7_leastFor_83 : decode cX7_leastFor 83 = .ok (.iload 6, 2) := by decide +kernel
theorem dX7_leastFor_85 : decode cX7_leastFor 85 = .ok (.bipush 7, 2) := by decide +kernel
theorem dX7_leastFor_87 : decode cX7_leastFor 87 = .ok (.if_icmp .gt 81, 3) := by decide +kernel
theorem dX7_leastFor_90 : decode cX7_leastFor 90 = .ok (.iload_n 2, 1) := by decide +kernel
theorem dX7_leastFor_91 : decode cX7_leastFor 91 = .ok (.iload 4, 2) := by decide +kernel
theorem dX7_leastFor_93 : decode cX7_leastFor 93 = .ok (.iand, 1) := by decide +kernel
theorem dX7_leastFor_94 : decode cX7_leastFor 94 = .ok (.iconst 1, 1) := by decide +kernel
theorem dX7_leastFor_95 : decode cX7_leastFor 95 = .ok (.iload 6, 2) := by decide +kernel
theorem dX7_leastFor_97 : decode cX7_leastFor 97 = .ok (.ishl, 1) := by decide +kernel
theorem dX7_leastFor_98 : decode cX7_leastFor 98 = .ok (.iand, 1) := by decide +kernel
theorem dX7_leastFor_99 : decode cX7_leastFor 99 = .ok (.istore 7, 2) := by decide +kernel
theorem dX7_leastFor_101 : decode cX7_leastFor 101 = .ok (.iload 7, 2) := by decide +kernel
theorem dX7_leastFor_103 : decode cX7_leastFor 103 = .ok (.ifCond .ne 7, 3) := by decide +kernel
theorem dX7_leastFor_106 : decode cX7_leastFor 106 = .ok (.iconst (-1), 1) := by decide +kernel
theorem dX7_leastFor_107 : decode cX7_leastFor 107 = .ok (.goto 10, 3) := by decide +kernel
theorem dX7_leastFor_110 : decode cX7_leastFor 110 = .ok (.aload_n 0, 1) := by decide +kernel
theorem dX7_leastFor_111 : decode cX7_leastFor 111 = .ok (.iload_n 3, 1) := by decide +kernel
theorem dX7_leastFor_112 : decode cX7_leastFor 112 = .ok (.iload 6, 2) := by decide +kernel
theorem dX7_leastFor_114 : decode cX7_leastFor 114 = .ok (.invokevirtual 52, 3) := by decide +kernel
theorem dX7_leastFor_117 : decode cX7_leastFor 117 = .ok (.istore 8, 2) := by decide +kernel
theorem dX7_leastFor_119 : decode cX7_leastFor 119 = .ok (.iload 8, 2) := by decide +kernel
theorem dX7_leastFor_121 : decode cX7_leastFor 121 = .ok (.ifCond .lt 37, 3) := by decide +kernel
theorem dX7_leastFor_124 : decode cX7_leastFor 124 = .ok (.aload_n 0, 1) := by decide +kernel
theorem dX7_leastFor_125 : decode cX7_leastFor 125 = .ok (.getfield 19, 3) := by decide +kernel
theorem dX7_leastFor_128 : decode cX7_leastFor 128 = .ok (.iload 4, 2) := by decide +kernel
theorem dX7_leastFor_130 : decode cX7_leastFor 130 = .ok (.iload 7, 2) := by decide +kernel
theorem dX7_leastFor_132 : decode cX7_leastFor 132 = .ok (.isub, 1) := by decide +kernel
theorem dX7_leastFor_133 : decode cX7_leastFor 133 = .ok (.iaload, 1) := by decide +kernel
theorem dX7_leastFor_134 : decode cX7_leastFor 134 = .ok (.iload 8, 2) := by decide +kernel
theorem dX7_leastFor_136 : decode cX7_leastFor 136 = .ok (.iadd, 1) := by decide +kernel
theorem dX7_leastFor_137 : decode cX7_leastFor 137 = .ok (.iload 5, 2) := by decide +kernel
theorem dX7_leastFor_139 : decode cX7_leastFor 139 = .ok (.if_icmp .ge 19, 3) := by decide +kernel
theorem dX7_leastFor_142 : decode cX7_leastFor 142 = .ok (.aload_n 0, 1) := by decide +kernel
theorem dX7_leastFor_143 : decode cX7_leastFor 143 = .ok (.getfield 19, 3) := by decide +kernel
theorem dX7_leastFor_146 : decode cX7_leastFor 146 = .ok (.iload 4, 2) := by decide +kernel
theorem dX7_leastFor_148 : decode cX7_leastFor 148 = .ok (.iload 7, 2) := by decide +kernel
theorem dX7_leastFor_150 : decode cX7_leastFor 150 = .ok (.isub, 1) := by decide +kernel
theorem dX7_leastFor_151 : decode cX7_leastFor 151 = .ok (.iaload, 1) := by decide +kernel
theorem dX7_leastFor_152 : decode cX7_leastFor 152 = .ok (.iload 8, 2) := by decide +kernel
theorem dX7_leastFor_154 : decode cX7_leastFor 154 = .ok (.iadd, 1) := by decide +kernel
theorem dX7_leastFor_155 : decode cX7_leastFor 155 = .ok (.goto 5, 3) := by decide +kernel
theorem dX7_leastFor_158 : decode cX7_leastFor 158 = .ok (.iload 5, 2) := by decide +kernel
theorem dX7_leastFor_160 : decode cX7_leastFor 160 = .ok (.istore 5, 2) := by decide +kernel
theorem dX7_leastFor_162 : decode cX7_leastFor 162 = .ok (.iinc 6 1, 3) := by decide +kernel
theorem dX7_leastFor_165 : decode cX7_leastFor 165 = .ok (.goto (-82), 3) := by decide +kernel
theorem dX7_leastFor_168 : decode cX7_leastFor 168 = .ok (.aload_n 0, 1) := by decide +kernel
theorem dX7_leastFor_169 : decode cX7_leastFor 169 = .ok (.getfield 19, 3) := by decide +kernel
theorem dX7_leastFor_172 : decode cX7_leastFor 172 = .ok (.iload 4, 2) := by decide +kernel
theorem dX7_leastFor_174 : decode cX7_leastFor 174 = .ok (.iload 5, 2) := by decide +kernel
theorem dX7_leastFor_176 : decode cX7_leastFor 176 = .ok (.iastore, 1) := by decide +kernel
theorem dX7_leastFor_177 : decode cX7_leastFor 177 = .ok (.iinc 4 (-1), 3) := by decide +kernel
theorem dX7_leastFor_180 : decode cX7_leastFor 180 = .ok (.goto (-132), 3) := by decide +kernel
theorem dX7_leastFor_183 : decode cX7_leastFor 183 = .ok (.iinc 3 1, 3) := by decide +kernel
theorem dX7_leastFor_186 : decode cX7_leastFor 186 = .ok (.goto (-153), 3) := by decide +kernel
theorem dX7_leastFor_189 : decode cX7_leastFor 189 = .ok (.ldc 51, 2) := by decide +kernel
theorem dX7_leastFor_191 : decode cX7_leastFor 191 = .ok (.istore_n 3, 1) := by decide +kernel
theorem dX7_leastFor_192 : decode cX7_leastFor 192 = .ok (.iconst 0, 1) := by decide +kernel
theorem dX7_leastFor_193 : decode cX7_leastFor 193 = .ok (.istore 4, 2) := by decide +kernel
theorem dX7_leastFor_195 : decode cX7_leastFor 195 = .ok (.iload 4, 2) := by decide +kernel
theorem dX7_leastFor_197 : decode cX7_leastFor 197 = .ok (.sipush 256, 3) := by decide +kernel
theorem dX7_leastFor_200 : decode cX7_leastFor 200 = .ok (.if_icmp .ge 32, 3) := by decide +kernel
theorem dX7_leastFor_203 : decode cX7_leastFor 203 = .ok (.aload_n 0, 1) := by decide +kernel
theorem dX7_leastFor_204 : decode cX7_leastFor 204 = .ok (.getfield 19, 3) := by decide +kernel
theorem dX7_leastFor_207 : decode cX7_leastFor 207 = .ok (.iload 4, 2) := by decide +kernel
theorem dX7_leastFor_209 : decode cX7_leastFor 209 = .ok (.iaload, 1) := by decide +kernel
theorem dX7_leastFor_210 : decode cX7_leastFor 210 = .ok (.iload_n 3, 1) := by decide +kernel
theorem dX7_leastFor_211 : decode cX7_leastFor 211 = .ok (.if_icmp .ge 13, 3) := by decide +kernel
theorem dX7_leastFor_214 : decode cX7_leastFor 214 = .ok (.aload_n 0, 1) := by decide +kernel
theorem dX7_leastFor_215 : decode cX7_leastFor 215 = .ok (.getfield 19, 3) := by decide +kernel
theorem dX7_leastFor_218 : decode cX7_leastFor 218 = .ok (.iload 4, 2) := by decide +kernel
theorem dX7_leastFor_220 : decode cX7_leastFor 220 = .ok (.iaload, 1) := by decide +kernel
theorem dX7_leastFor_221 : decode cX7_leastFor 221 = .ok (.goto 4, 3) := by decide +kernel
theorem dX7_leastFor_224 : decode cX7_leastFor 224 = .ok (.iload_n 3, 1) := by decide +kernel
theorem dX7_leastFor_225 : decode cX7_leastFor 225 = .ok (.istore_n 3, 1) := by decide +kernel
theorem dX7_leastFor_226 : decode cX7_leastFor 226 = .ok (.iinc 4 1, 3) := by decide +kernel
theorem dX7_leastFor_229 : decode cX7_leastFor 229 = .ok (.goto (-34), 3) := by decide +kernel
theorem dX7_leastFor_232 : decode cX7_leastFor 232 = .ok (.iload_n 3, 1) := by decide +kernel
theorem dX7_leastFor_233 : decode cX7_leastFor 233 = .ok (.ireturn, 1) := by decide +kernel
theorem dX7_allWorkers_0 : decode cX7_allWorkers 0 = .ok (.iconst 1, 1) := by decide +kernel
theorem dX7_allWorkers_1 : decode cX7_allWorkers 1 = .ok (.aload_n 0, 1) := by decide +kernel
theorem dX7_allWorkers_2 : decode cX7_allWorkers 2 = .ok (.getfield 7, 3) := by decide +kernel
theorem dX7_allWorkers_5 : decode cX7_allWorkers 5 = .ok (.iconst 0, 1) := by decide +kernel
theorem dX7_allWorkers_6 : decode cX7_allWorkers 6 = .ok (.iaload, 1) := by decide +kernel
theorem dX7_allWorkers_7 : decode cX7_allWorkers 7 = .ok (.ishl, 1) := by decide +kernel
theorem dX7_allWorkers_8 : decode cX7_allWorkers 8 = .ok (.iconst 1, 1) := by decide +kernel
theorem dX7_allWorkers_9 : decode cX7_allWorkers 9 = .ok (.isub, 1) := by decide +kernel
theorem dX7_allWorkers_10 : decode cX7_allWorkers 10 = .ok (.ireturn, 1) := by decide +kernel
theorem dX7_allTasks_0 : decode cX7_allTasks 0 = .ok (.iconst 1, 1) := by decide +kernel
theorem dX7_allTasks_1 : decode cX7_allTasks 1 = .ok (.aload_n 0, 1) := by decide +kernel
theorem dX7_allTasks_2 : decode cX7_allTasks 2 = .ok (.getfield 7, 3) := by decide +kernel
theorem dX7_allTasks_5 : decode cX7_allTasks 5 = .ok (.iconst 1, 1) := by decide +kernel
theorem dX7_allTasks_6 : decode cX7_allTasks 6 = .ok (.iaload, 1) := by decide +kernel
theorem dX7_allTasks_7 : decode cX7_allTasks 7 = .ok (.ishl, 1) := by decide +kernel
theorem dX7_allTasks_8 : decode cX7_allTasks 8 = .ok (.iconst 1, 1) := by decide +kernel
theorem dX7_allTasks_9 : decode cX7_allTasks 9 = .ok (.isub, 1) := by decide +kernel
theorem dX7_allTasks_10 : decode cX7_allTasks 10 = .ok (.ireturn, 1) := by decide +kernel
set_option maxRecDepth 20000 in
theorem ggX7_leastTotal_X7_allWorkers : GoodIn wsX7_leastTotal wsX7_allWorkers := goodIn_r _ [5, 6, 28, 29, 30, 31, 32, 33, 34, 35, 36, 37, 38, 39, 40, 41, 42, 43, 44, 45] (by decide +kernel) (by decide +kernel)
set_option maxRecDepth 20000 in
theorem gX7_leastTotal_X7_allWorkers : GoodIn wsX7_leastTotal (wsV RX7 55 RX7 yX7_allWorkers wsX7_allWorkers) := goodIn_app (goodIn_of _ (by decide +kernel)) ggX7_leastTotal_X7_allWorkers
set_option maxRecDepth 20000 in
theorem ggX7_leastTotal_X7_allTasks : GoodIn wsX7_leastTotal wsX7_allTasks := goodIn_r _ [10, 6, 28, 29, 30, 31, 32, 33, 34, 35, 36, 37, 38, 39, 40, 41, 42, 43, 44, 45] (by decide +kernel) (by decide +kernel)
set_option maxRecDepth 20000 in
theorem gX7_leastTotal_X7_allTasks : GoodIn wsX7_leastTotal (wsV RX7 59 RX7 yX7_allTasks wsX7_allTasks) := goodIn_app (goodIn_of _ (by decide +kernel)) ggX7_leastTotal_X7_allTasks
set_option maxRecDepth 20000 in
theorem ggX7_leastTotal_X7_leastFor : GoodIn wsX7_leastTotal wsX7_leastFor := goodIn_r _ [14, 15, 16, 6, 17, 18, 19, 4, 20, 21, 22, 23, 24, 25, 26, 27, 28, 29, 30, 31, 32, 33, 34, 35, 36, 37, 38, 39, 40, 41, 42, 43, 44, 45] (by decide +kernel) (by decide +kernel)
set_option maxRecDepth 20000 in
theorem gX7_leastTotal_X7_leastFor : GoodIn wsX7_leastTotal (wsV RX7 62 RX7 yX7_leastFor wsX7_leastFor) := goodIn_app (goodIn_of _ (by decide +kernel)) ggX7_leastTotal_X7_leastFor
theorem dX7_leastTotal_0 : decode cX7_leastTotal 0 = .ok (.aload_n 0, 1) := by decide +kernel
theorem dX7_leastTotal_1 : decode cX7_leastTotal 1 = .ok (.aload_n 0, 1) := by decide +kernel
theorem dX7_leastTotal_2 : decode cX7_leastTotal 2 = .ok (.invokevirtual 55, 3) := by decide +kernel
theorem dX7_leastTotal_5 : decode cX7_leastTotal 5 = .ok (.aload_n 0, 1) := by decide +kernel
theorem dX7_leastTotal_6 : decode cX7_leastTotal 6 = .ok (.invokevirtual 59, 3) := by decide +kernel
theorem dX7_leastTotal_9 : decode cX7_leastTotal 9 = .ok (.invokevirtual 62, 3) := by decide +kernel
theorem dX7_leastTotal_12 : decode cX7_leastTotal 12 = .ok (.ireturn, 1) := by decide +kernel
set_option maxRecDepth 20000 in
theorem ggX7_without_X7_leastTotal : GoodIn wsX7_without wsX7_leastTotal := goodIn_r _ [7, 8, 9, 10, 6, 11, 12, 13, 14, 15, 16, 17, 18, 19, 20, 21, 22, 23, 24, 25, 26, 1, 2, 27, 28, 29, 30, 31, 32, 33, 34, 35, 36, 37, 38, 39, 40, 41, 42, 43, 44, 45, 46, 47, 48, 49] (by decide +kernel) (by decide +kernel)
set_option maxRecDepth 20000 in
theorem gX7_without_X7_leastTotal : GoodIn wsX7_without (wsV RX7 65 RX7 yX7_leastTotal wsX7_leastTotal) := goodIn_app (goodIn_of _ (by decide +kernel)) ggX7_without_X7_leastTotal
theorem dX7_without_0 : decode cX7_without 0 = .ok (.aload_n 0, 1) := by decide +kernel
theorem dX7_without_1 : decode cX7_without 1 = .ok (.iload_n 1, 1) := by decide +kernel
theorem dX7_without_2 : decode cX7_without 2 = .ok (.putfield 26, 3) := by decide +kernel
theorem dX7_without_5 : decode cX7_without 5 = .ok (.aload_n 0, 1) := by decide +kernel
theorem dX7_without_6 : decode cX7_without 6 = .ok (.iload_n 2, 1) := by decide +kernel
theorem dX7_without_7 : decode cX7_without 7 = .ok (.putfield 29, 3) := by decide +kernel
theorem dX7_without_10 : decode cX7_without 10 = .ok (.aload_n 0, 1) := by decide +kernel
theorem dX7_without_11 : decode cX7_without 11 = .ok (.invokevirtual 65, 3) := by decide +kernel
theorem dX7_without_14 : decode cX7_without 14 = .ok (.istore_n 3, 1) := by decide +kernel
theorem dX7_without_15 : decode cX7_without 15 = .ok (.aload_n 0, 1) := by decide +kernel
theorem dX7_without_16 : decode cX7_without 16 = .ok (.bipush (-4), 2) := by decide +kernel
theorem dX7_without_18 : decode cX7_without 18 = .ok (.putfield 26, 3) := by decide +kernel
theorem dX7_without_21 : decode cX7_without 21 = .ok (.aload_n 0, 1) := by decide +kernel
theorem dX7_without_22 : decode cX7_without 22 = .ok (.bipush (-4), 2) := by decide +kernel
theorem dX7_without_24 : decode cX7_without 24 = .ok (.putfield 29, 3) := by decide +kernel
theorem dX7_without_27 : decode cX7_without 27 = .ok (.iload_n 3, 1) := by decide +kernel
theorem dX7_without_28 : decode cX7_without 28 = .ok (.ireturn, 1) := by decide +kernel
set_option maxRecDepth 20000 in
theorem ggX7_leastPrice_X7_allWorkers : GoodIn wsX7_leastPrice wsX7_allWorkers := goodIn_r _ [6, 7, 32, 33, 34, 35, 36, 37, 38, 39, 40, 41, 42, 43, 44, 45, 46, 47, 48, 49] (by decide +kernel) (by decide +kernel)
set_option maxRecDepth 20000 in
theorem gX7_leastPrice_X7_allWorkers : GoodIn wsX7_leastPrice (wsV RX7 55 RX7 yX7_allWorkers wsX7_allWorkers) := goodIn_app (goodIn_of _ (by decide +kernel)) ggX7_leastPrice_X7_allWorkers
set_option maxRecDepth 20000 in
theorem ggX7_leastPrice_X7_allTasks : GoodIn wsX7_leastPrice wsX7_allTasks := goodIn_r _ [11, 7, 32, 33, 34, 35, 36, 37, 38, 39, 40, 41, 42, 43, 44, 45, 46, 47, 48, 49] (by decide +kernel) (by decide +kernel)
set_option maxRecDepth 20000 in
theorem gX7_leastPrice_X7_allTasks : GoodIn wsX7_leastPrice (wsV RX7 59 RX7 yX7_allTasks wsX7_allTasks) := goodIn_app (goodIn_of _ (by decide +kernel)) ggX7_leastPrice_X7_allTasks
set_option maxRecDepth 20000 in
theorem ggX7_leastPrice_X7_leastFor : GoodIn wsX7_leastPrice wsX7_leastFor := goodIn_r _ [15, 16, 17, 7, 18, 19, 20, 5, 21, 22, 23, 1, 24, 25, 26, 27, 32, 33, 34, 35, 36, 37, 38, 39, 40, 41, 42, 43, 44, 45, 46, 47, 48, 49] (by decide +kernel) (by decide +kernel)
set_option maxRecDepth 20000 in
theorem gX7_leastPrice_X7_leastFor : GoodIn wsX7_leastPrice (wsV RX7 62 RX7 yX7_leastFor wsX7_leastFor) := goodIn_app (goodIn_of _ (by decide +kernel)) ggX7_leastPrice_X7_leastFor
set_option maxRecDepth 20000 in
theorem ggX7_leastPrice_X7_leastTotal : GoodIn wsX7_leastPrice wsX7_leastTotal := goodIn_r _ [31, 2, 3, 4, 5, 6, 7, 8, 9, 10, 11, 12, 13, 14, 15, 16, 17, 18, 19, 20, 21, 22, 23, 1, 24, 25, 26, 27, 32, 33, 34, 35, 36, 37, 38, 39, 40, 41, 42, 43, 44, 45, 46, 47, 48, 49] (by decide +kernel) (by decide +kernel)
set_option maxRecDepth 20000 in
theorem gX7_leastPrice_X7_leastTotal : GoodIn wsX7_leastPrice (wsV RX7 65 RX7 yX7_leastTotal wsX7_leastTotal) := goodIn_app (goodIn_of _ (by decide +kernel)) ggX7_leastPrice_X7_leastTotal
theorem dX7_leastPrice_0 : decode cX7_leastPrice 0 = .ok (.aload_n 0, 1) := by decide +kernel
theorem dX7_leastPrice_1 : decode cX7_leastPrice 1 = .ok (.iload_n 1, 1) := by decide +kernel
theorem dX7_leastPrice_2 : decode cX7_leastPrice 2 = .ok (.putfield 22, 3) := by decide +kernel
theorem dX7_leastPrice_5 : decode cX7_leastPrice 5 = .ok (.aload_n 0, 1) := by decide +kernel
theorem dX7_leastPrice_6 : decode cX7_leastPrice 6 = .ok (.aload_n 0, 1) := by decide +kernel
theorem dX7_leastPrice_7 : decode cX7_leastPrice 7 = .ok (.invokevirtual 55, 3) := by decide +kernel
theorem dX7_leastPrice_10 : decode cX7_leastPrice 10 = .ok (.aload_n 0, 1) := by decide +kernel
theorem dX7_leastPrice_11 : decode cX7_leastPrice 11 = .ok (.invokevirtual 59, 3) := by decide +kernel
theorem dX7_leastPrice_14 : decode cX7_leastPrice 14 = .ok (.sipush 128, 3) := by decide +kernel
theorem dX7_leastPrice_17 : decode cX7_leastPrice 17 = .ok (.ior, 1) := by decide +kernel
theorem dX7_leastPrice_18 : decode cX7_leastPrice 18 = .ok (.invokevirtual 62, 3) := by decide +kernel
theorem dX7_leastPrice_21 : decode cX7_leastPrice 21 = .ok (.istore_n 2, 1) := by decide +kernel
theorem dX7_leastPrice_22 : decode cX7_leastPrice 22 = .ok (.aload_n 0, 1) := by decide +kernel
theorem dX7_leastPrice_23 : decode cX7_leastPrice 23 = .ok (.bipush (-4), 2) := by decide +kernel
theorem dX7_leastPrice_25 : decode cX7_leastPrice 25 = .ok (.putfield 22, 3) := by decide +kernel
theorem dX7_leastPrice_28 : decode cX7_leastPrice 28 = .ok (.aload_n 0, 1) := by decide +kernel
theorem dX7_leastPrice_29 : decode cX7_leastPrice 29 = .ok (.invokevirtual 65, 3) := by decide +kernel
theorem dX7_leastPrice_32 : decode cX7_leastPrice 32 = .ok (.iload_n 2, 1) := by decide +kernel
theorem dX7_leastPrice_33 : decode cX7_leastPrice 33 = .ok (.isub, 1) := by decide +kernel
theorem dX7_leastPrice_34 : decode cX7_leastPrice 34 = .ok (.ireturn, 1) := by decide +kernel
set_option maxRecDepth 20000 in
theorem ggX7_greatestPrice_X7_allWorkers : GoodIn wsX7_greatestPrice wsX7_allWorkers := goodIn_r _ [5, 6, 32, 33, 34, 35, 36, 37, 38, 39, 40, 41, 42, 43, 44, 45, 46, 47, 48, 49] (by decide +kernel) (by decide +kernel)
set_option maxRecDepth 20000 in
theorem gX7_greatestPrice_X7_allWorkers : GoodIn wsX7_greatestPrice (wsV RX7 55 RX7 yX7_allWorkers wsX7_allWorkers) := goodIn_app (goodIn_of _ (by decide +kernel)) ggX7_greatestPrice_X7_allWorkers
set_option maxRecDepth 20000 in
theorem ggX7_greatestPrice_X7_allTasks : GoodIn wsX7_greatestPrice wsX7_allTasks := goodIn_r _ [10, 6, 32, 33, 34, 35, 36, 37, 38, 39, 40, 41, 42, 43, 44, 45, 46, 47, 48, 49] (by decide +kernel) (by decide +kernel)
set_option maxRecDepth 20000 in
theorem gX7_greatestPrice_X7_allTasks : GoodIn wsX7_greatestPrice (wsV RX7 59 RX7 yX7_allTasks wsX7_allTasks) := goodIn_app (goodIn_of _ (by decide +kernel)) ggX7_greatestPrice_X7_allTasks
set_option maxRecDepth 20000 in
theorem ggX7_greatestPrice_X7_leastFor : GoodIn wsX7_greatestPrice wsX7_leastFor := goodIn_r _ [14, 15, 16, 6, 17, 18, 19, 4, 20, 21, 22, 23, 24, 25, 26, 27, 32, 33, 34, 35, 36, 37, 38, 39, 40, 41, 42, 43, 44, 45, 46, 47, 48, 49] (by decide +kernel) (by decide +kernel)
set_option maxRecDepth 20000 in
theorem gX7_greatestPrice_X7_leastFor : GoodIn wsX7_greatestPrice (wsV RX7 62 RX7 yX7_leastFor wsX7_leastFor) := goodIn_app (goodIn_of _ (by decide +kernel)) ggX7_greatestPrice_X7_leastFor
set_option maxRecDepth 20000 in
theorem ggX7_greatestPrice_X7_leastTotal : GoodIn wsX7_greatestPrice wsX7_leastTotal := goodIn_r _ [31, 1, 2, 3, 4, 5, 6, 7, 8, 9, 10, 11, 12, 13, 14, 15, 16, 17, 18, 19, 20, 21, 22, 23, 24, 25, 26, 27, 32, 33, 34, 35, 36, 37, 38, 39, 40, 41, 42, 43, 44, 45, 46, 47, 48, 49] (by decide +kernel) (by decide +kernel)
set_option maxRecDepth 20000 in
theorem gX7_greatestPrice_X7_leastTotal : GoodIn wsX7_greatestPrice (wsV RX7 65 RX7 yX7_leastTotal wsX7_leastTotal) := goodIn_app (goodIn_of _ (by decide +kernel)) ggX7_greatestPrice_X7_leastTotal
theorem dX7_greatestPrice_0 : decode cX7_greatestPrice 0 = .ok (.aload_n 0, 1) := by decide +kernel
theorem dX7_greatestPrice_1 : decode cX7_greatestPrice 1 = .ok (.aload_n 0, 1) := by decide +kernel
theorem dX7_greatestPrice_2 : decode cX7_greatestPrice 2 = .ok (.invokevirtual 55, 3) := by decide +kernel
theorem dX7_greatestPrice_5 : decode cX7_greatestPrice 5 = .ok (.aload_n 0, 1) := by decide +kernel
theorem dX7_greatestPrice_6 : decode cX7_greatestPrice 6 = .ok (.invokevirtual 59, 3) := by decide +kernel
theorem dX7_greatestPrice_9 : decode cX7_greatestPrice 9 = .ok (.iconst 1, 1) := by decide +kernel
theorem dX7_greatestPrice_10 : decode cX7_greatestPrice 10 = .ok (.iload_n 1, 1) := by decide +kernel
theorem dX7_greatestPrice_11 : decode cX7_greatestPrice 11 = .ok (.ishl, 1) := by decide +kernel
theorem dX7_greatestPrice_12 : decode cX7_greatestPrice 12 = .ok (.isub, 1) := by decide +kernel
theorem dX7_greatestPrice_13 : decode cX7_greatestPrice 13 = .ok (.invokevirtual 62, 3) := by decide +kernel
theorem dX7_greatestPrice_16 : decode cX7_greatestPrice 16 = .ok (.aload_n 0, 1) := by decide +kernel
theorem dX7_greatestPrice_17 : decode cX7_greatestPrice 17 = .ok (.invokevirtual 65, 3) := by decide +kernel
theorem dX7_greatestPrice_20 : decode cX7_greatestPrice 20 = .ok (.isub, 1) := by decide +kernel
theorem dX7_greatestPrice_21 : decode cX7_greatestPrice 21 = .ok (.ireturn, 1) := by decide +kernel
set_option maxRecDepth 20000 in
theorem ggX7_worker_X7_in : GoodIn wsX7_worker wsX7_in := goodIn_r _ [5] (by decide +kernel) (by decide +kernel)
set_option maxRecDepth 20000 in
theorem gX7_worker_X7_in : GoodIn wsX7_worker (va_wsS RX7 68 yX7_in wsX7_in) := goodIn_app (goodIn_of _ (by decide +kernel)) ggX7_worker_X7_in
set_option maxRecDepth 20000 in
theorem ggX7_worker_X7_changes : GoodIn wsX7_worker wsX7_changes := goodIn_r _ [9, 10, 11, 1, 12, 13, 14, 15, 16, 17, 18, 19, 20, 21, 22, 23, 24, 25, 26, 27, 28, 29] (by decide +kernel) (by decide +kernel)
set_option maxRecDepth 20000 in
theorem gX7_worker_X7_changes : GoodIn wsX7_worker (wsV RX7 72 RX7 yX7_changes wsX7_changes) := goodIn_app (goodIn_of _ (by decide +kernel)) ggX7_worker_X7_changes
theorem dX7_worker_0 : decode cX7_worker 0 = .ok (.iload_n 1, 1) := by decide +kernel
theorem dX7_worker_1 : decode cX7_worker 1 = .ok (.iconst 0, 1) := by decide +kernel
theorem dX7_worker_2 : decode cX7_worker 2 = .ok (.sipush 9999, 3) := by decide +kernel
theorem dX7_worker_5 : decode cX7_worker 5 = .ok (.invokestatic 68, 3) := by decide +kernel
theorem dX7_worker_8 : decode cX7_worker 8 = .ok (.ifCond .ne 5, 3) := by decide +kernel
theorem dX7_worker_11 : decode cX7_worker 11 = .ok (.iconst (-1), 1) := by decide +kernel
theorem dX7_worker_12 : decode cX7_worker 12 = .ok (.ireturn, 1) := by decide +kernel
theorem dX7_worker_13 : decode cX7_worker 13 = .ok (.aload_n 0, 1) := by decide +kernel
theorem dX7_worker_14 : decode cX7_worker 14 = .ok (.getfield 7, 3) := by decide +kernel
theorem dX7_worker_17 : decode cX7_worker 17 = .ok (.iconst 0, 1) := by decide +kernel
theorem dX7_worker_18 : decode cX7_worker 18 = .ok (.iaload, 1) := by decide +kernel
theorem dX7_worker_19 : decode cX7_worker 19 = .ok (.istore_n 2, 1) := by decide +kernel
theorem dX7_worker_20 : decode cX7_worker 20 = .ok (.iload_n 2, 1) := by decide +kernel
theorem dX7_worker_21 : decode cX7_worker 21 = .ok (.bipush 7, 2) := by decide +kernel
theorem dX7_worker_23 : decode cX7_worker 23 = .ok (.if_icmp .ne 6, 3) := by decide +kernel
theorem dX7_worker_26 : decode cX7_worker 26 = .ok (.bipush (-3), 2) := by decide +kernel
theorem dX7_worker_28 : decode cX7_worker 28 = .ok (.ireturn, 1) := by decide +kernel
theorem dX7_worker_29 : decode cX7_worker 29 = .ok (.aload_n 0, 1) := by decide +kernel
theorem dX7_worker_30 : decode cX7_worker 30 = .ok (.invokevirtual 72, 3) := by decide +kernel
theorem dX7_worker_33 : decode cX7_worker 33 = .ok (.aload_n 0, 1) := by decide +kernel
theorem dX7_worker_34 : decode cX7_worker 34 = .ok (.getfield 7, 3) := by decide +kernel
theorem dX7_worker_37 : decode cX7_worker 37 = .ok (.iconst 2, 1) := by decide +kernel
theorem dX7_worker_38 : decode cX7_worker 38 = .ok (.iload_n 2, 1) := by decide +kernel
theorem dX7_worker_39 : decode cX7_worker 39 = .ok (.iadd, 1) := by decide +kernel
theorem dX7_worker_40 : decode cX7_worker 40 = .ok (.iload_n 1, 1) := by decide +kernel
theorem dX7_worker_41 : decode cX7_worker 41 = .ok (.iastore, 1) := by decide +kernel
theorem dX7_worker_42 : decode cX7_worker 42 = .ok (.iconst 0, 1) := by decide +kernel
theorem dX7_worker_43 : decode cX7_worker 43 = .ok (.istore_n 3, 1) := by decide +kernel
theorem dX7_worker_44 : decode cX7_worker 44 = .ok (.iload_n 3, 1) := by decide +kernel
theorem dX7_worker_45 : decode cX7_worker 45 = .ok (.bipush 7, 2) := by decide +kernel
theorem dX7_worker_47 : decode cX7_worker 47 = .ok (.if_icmp .ge 24, 3) := by decide +kernel
theorem dX7_worker_50 : decode cX7_worker 50 = .ok (.aload_n 0, 1) := by decide +kernel
theorem dX7_worker_51 : decode cX7_worker 51 = .ok (.getfield 7, 3) := by decide +kernel
theorem dX7_worker_54 : decode cX7_worker 54 = .ok (.bipush 9, 2) := by decide +kernel
theorem dX7_worker_56 : decode cX7_worker 56 = .ok (.bipush 7, 2) := by decide +kernel
theorem dX7_worker_58 : decode cX7_worker 58 = .ok (.iload_n 2, 1) := by decide +kernel
theorem dX7_worker_59 : decode cX7_worker 59 = .ok (.imul, 1) := by decide +kernel
theorem dX7_worker_60 : decode cX7_worker 60 = .ok (.iadd, 1) := by decide +kernel
theorem dX7_worker_61 : decode cX7_worker 61 = .ok (.iload_n 3, 1) := by decide +kernel
theorem dX7_worker_62 : decode cX7_worker 62 = .ok (.iadd, 1) := by decide +kernel
theorem dX7_worker_63 : decode cX7_worker 63 = .ok (.iconst (-1), 1) := by decide +kernel
theorem dX7_worker_64 : decode cX7_worker 64 = .ok (.iastore, 1) := by decide +kernel
theorem dX7_worker_65 : decode cX7_worker 65 = .ok (.iinc 3 1, 3) := by decide +kernel
theorem dX7_worker_68 : decode cX7_worker 68 = .ok (.goto (-24), 3) := by decide +kernel
theorem dX7_worker_71 : decode cX7_worker 71 = .ok (.aload_n 0, 1) := by decide +kernel
theorem dX7_worker_72 : decode cX7_worker 72 = .ok (.getfield 7, 3) := by decide +kernel
theorem dX7_worker_75 : decode cX7_worker 75 = .ok (.iconst 0, 1) := by decide +kernel
theorem dX7_worker_76 : decode cX7_worker 76 = .ok (.dup2, 1) := by decide +kernel
theorem dX7_worker_77 : decode cX7_worker 77 = .ok (.iaload, 1) := by decide +kernel
theorem dX7_worker_78 : decode cX7_worker 78 = .ok (.iconst 1, 1) := by decide +kernel
theorem dX7_worker_79 : decode cX7_worker 79 = .ok (.iadd, 1) := by decide +kernel
theorem dX7_worker_80 : decode cX7_worker 80 = .ok (.iastore, 1) := by decide +kernel
theorem dX7_worker_81 : decode cX7_worker 81 = .ok (.iload_n 2, 1) := by decide +kernel
theorem dX7_worker_82 : decode cX7_worker 82 = .ok (.ireturn, 1) := by decide +kernel
set_option maxRecDepth 20000 in
theorem ggX7_task_X7_changes : GoodIn wsX7_task wsX7_changes := goodIn_r _ [6, 7, 8, 1, 9, 10, 11, 12, 13, 14, 15, 16, 17, 18, 19, 20, 21, 22, 23, 24, 25, 26] (by decide +kernel) (by decide +kernel)
set_option maxRecDepth 20000 in
theorem gX7_task_X7_changes : GoodIn wsX7_task (wsV RX7 72 RX7 yX7_changes wsX7_changes) := goodIn_app (goodIn_of _ (by decide +kernel)) ggX7_task_X7_changes
theorem dX7_task_0 : decode cX7_task 0 = .ok (.aload_n 0, 1) := by decide +kernel
theorem dX7_task_1 : decode cX7_task 1 = .ok (.getfield 7, 3) := by decide +kernel
theorem dX7_task_4 : decode cX7_task 4 = .ok (.iconst 1, 1) := by decide +kernel
theorem dX7_task_5 : decode cX7_task 5 = .ok (.iaload, 1) := by decide +kernel
theorem dX7_task_6 : decode cX7_task 6 = .ok (.istore_n 1, 1) := by decide +kernel
theorem dX7_task_7 : decode cX7_task 7 = .ok (.iload_n 1, 1) := by decide +kernel
theorem dX7_task_8 : decode cX7_task 8 = .ok (.bipush 7, 2) := by decide +kernel
theorem dX7_task_10 : decode cX7_task 10 = .ok (.if_icmp .ne 6, 3) := by decide +kernel
theorem dX7_task_13 : decode cX7_task 13 = .ok (.bipush (-3), 2) := by decide +kernel
theorem dX7_task_15 : decode cX7_task 15 = .ok (.ireturn, 1) := by decide +kernel
theorem dX7_task_16 : decode cX7_task 16 = .ok (.aload_n 0, 1) := by decide +kernel
theorem dX7_task_17 : decode cX7_task 17 = .ok (.invokevirtual 72, 3) := by decide +kernel
theorem dX7_task_20 : decode cX7_task 20 = .ok (.iconst 0, 1) := by decide +kernel
theorem dX7_task_21 : decode cX7_task 21 = .ok (.istore_n 2, 1) := by decide +kernel
theorem dX7_task_22 : decode cX7_task 22 = .ok (.iload_n 2, 1) := by decide +kernel
theorem dX7_task_23 : decode cX7_task 23 = .ok (.bipush 7, 2) := by decide +kernel
theorem dX7_task_25 : decode cX7_task 25 = .ok (.if_icmp .ge 24, 3) := by decide +kernel
theorem dX7_task_28 : decode cX7_task 28 = .ok (.aload_n 0, 1) := by decide +kernel
theorem dX7_task_29 : decode cX7_task 29 = .ok (.getfield 7, 3) := by decide +kernel
theorem dX7_task_32 : decode cX7_task 32 = .ok (.bipush 9, 2) := by decide +kernel
theorem dX7_task_34 : decode cX7_task 34 = .ok (.bipush 7, 2) := by decide +kernel
theorem dX7_task_36 : decode cX7_task 36 = .ok (.iload_n 2, 1) := by decide +kernel
theorem dX7_task_37 : decode cX7_task 37 = .ok (.imul, 1) := by decide +kernel
theorem dX7_task_38 : decode cX7_task 38 = .ok (.iadd, 1) := by decide +kernel
theorem dX7_task_39 : decode cX7_task 39 = .ok (.iload_n 1, 1) := by decide +kernel
theorem dX7_task_40 : decode cX7_task 40 = .ok (.iadd, 1) := by decide +kernel
theorem dX7_task_41 : decode cX7_task 41 = .ok (.iconst (-1), 1) := by decide +kernel
theorem dX7_task_42 : decode cX7_task 42 = .ok (.iastore, 1) := by decide +kernel
theorem dX7_task_43 : decode cX7_task 43 = .ok (.iinc 2 1, 3) := by decide +kernel
theorem dX7_task_46 : decode cX7_task 46 = .ok (.goto (-24), 3) := by decide +kernel
theorem dX7_task_49 : decode cX7_task 49 = .ok (.aload_n 0, 1) := by decide +kernel
theorem dX7_task_50 : decode cX7_task 50 = .ok (.getfield 7, 3) := by decide +kernel
theorem dX7_task_53 : decode cX7_task 53 = .ok (.iconst 1, 1) := by decide +kernel
theorem dX7_task_54 : decode cX7_task 54 = .ok (.dup2, 1) := by decide +kernel
theorem dX7_task_55 : decode cX7_task 55 = .ok (.iaload, 1) := by decide +kernel
theorem dX7_task_56 : decode cX7_task 56 = .ok (.iconst 1, 1) := by decide +kernel
theorem dX7_task_57 : decode cX7_task 57 = .ok (.iadd, 1) := by decide +kernel
theorem dX7_task_58 : decode cX7_task 58 = .ok (.iastore, 1) := by decide +kernel
theorem dX7_task_59 : decode cX7_task 59 = .ok (.iload_n 1, 1) := by decide +kernel
theorem dX7_task_60 : decode cX7_task 60 = .ok (.ireturn, 1) := by decide +kernel
set_option maxRecDepth 20000 in
theorem ggX7_dropWorker_X7_isWorker : GoodIn wsX7_dropWorker wsX7_isWorker := goodIn_r _ [6, 1, 17, 18, 19, 20, 21, 22, 23, 24, 25, 26, 27, 28, 29, 30, 31, 32, 33, 34] (by decide +kernel) (by decide +kernel)
set_option maxRecDepth 20000 in
theorem gX7_dropWorker_X7_isWorker : GoodIn wsX7_dropWorker (wsV RX7 75 RX7 yX7_isWorker wsX7_isWorker) := goodIn_app (goodIn_of _ (by decide +kernel)) ggX7_dropWorker_X7_isWorker
set_option maxRecDepth 20000 in
theorem ggX7_dropWorker_X7_changes : GoodIn wsX7_dropWorker wsX7_changes := goodIn_r _ [10, 11, 12, 1, 17, 18, 19, 20, 21, 22, 23, 24, 25, 26, 27, 28, 29, 30, 31, 32, 33, 34] (by decide +kernel) (by decide +kernel)
set_option maxRecDepth 20000 in
theorem gX7_dropWorker_X7_changes : GoodIn wsX7_dropWorker (wsV RX7 72 RX7 yX7_changes wsX7_changes) := goodIn_app (goodIn_of _ (by decide +kernel)) ggX7_dropWorker_X7_changes
set_option maxRecDepth 20000 in
theorem ggX7_dropWorker_X7_of : GoodIn wsX7_dropWorker wsX7_of := goodIn_r _ [16, 1, 17, 18, 19, 20, 21, 22, 23, 24, 25, 26, 27, 28, 29, 30, 31, 32, 33, 34] (by decide +kernel) (by decide +kernel)
set_option maxRecDepth 20000 in
theorem gX7_dropWorker_X7_of : GoodIn wsX7_dropWorker (wsV RX7 47 RX7 yX7_of wsX7_of) := goodIn_app (goodIn_of _ (by decide +kernel)) ggX7_dropWorker_X7_of
theorem dX7_dropWorker_0 : decode cX7_dropWorker 0 = .ok (.aload_n 0, 1) := by decide +kernel
theorem dX7_dropWorker_1 : decode cX7_dropWorker 1 = .ok (.iload_n 1, 1) := by decide +kernel
theorem dX7_dropWorker_2 : decode cX7_dropWorker 2 = .ok (.invokevirtual 75, 3) := by decide +kernel
theorem dX7_dropWorker_5 : decode cX7_dropWorker 5 = .ok (.ifCond .ne 5, 3) := by decide +kernel
theorem dX7_dropWorker_8 : decode cX7_dropWorker 8 = .ok (.iconst (-1), 1) := by decide +kernel
theorem dX7_dropWorker_9 : decode cX7_dropWorker 9 = .ok (.ireturn, 1) := by decide +kernel
theorem dX7_dropWorker_10 : decode cX7_dropWorker 10 = .ok (.aload_n 0, 1) := by decide +kernel
theorem dX7_dropWorker_11 : decode cX7_dropWorker 11 = .ok (.invokevirtual 72, 3) := by decide +kernel
theorem dX7_dropWorker_14 : decode cX7_dropWorker 14 = .ok (.aload_n 0, 1) := by decide +kernel
theorem dX7_dropWorker_15 : decode cX7_dropWorker 15 = .ok (.getfield 7, 3) := by decide +kernel
theorem dX7_dropWorker_18 : decode cX7_dropWorker 18 = .ok (.iconst 0, 1) := by decide +kernel
theorem dX7_dropWorker_19 : decode cX7_dropWorker 19 = .ok (.dup2, 1) := by decide +kernel
theorem dX7_dropWorker_20 : decode cX7_dropWorker 20 = .ok (.iaload, 1) := by decide +kernel
theorem dX7_dropWorker_21 : decode cX7_dropWorker 21 = .ok (.iconst 1, 1) := by decide +kernel
theorem dX7_dropWorker_22 : decode cX7_dropWorker 22 = .ok (.isub, 1) := by decide +kernel
theorem dX7_dropWorker_23 : decode cX7_dropWorker 23 = .ok (.iastore, 1) := by decide +kernel
theorem dX7_dropWorker_24 : decode cX7_dropWorker 24 = .ok (.iload_n 1, 1) := by decide +kernel
theorem dX7_dropWorker_25 : decode cX7_dropWorker 25 = .ok (.istore_n 2, 1) := by decide +kernel
theorem dX7_dropWorker_26 : decode cX7_dropWorker 26 = .ok (.iload_n 2, 1) := by decide +kernel
theorem dX7_dropWorker_27 : decode cX7_dropWorker 27 = .ok (.aload_n 0, 1) := by decide +kernel
theorem dX7_dropWorker_28 : decode cX7_dropWorker 28 = .ok (.getfield 7, 3) := by decide +kernel
theorem dX7_dropWorker_31 : decode cX7_dropWorker 31 = .ok (.iconst 0, 1) := by decide +kernel
theorem dX7_dropWorker_32 : decode cX7_dropWorker 32 = .ok (.iaload, 1) := by decide +kernel
theorem dX7_dropWorker_33 : decode cX7_dropWorker 33 = .ok (.if_icmp .ge 63, 3) := by decide +kernel
theorem dX7_dropWorker_36 : decode cX7_dropWorker 36 = .ok (.aload_n 0, 1) := by decide +kernel
theorem dX7_dropWorker_37 : decode cX7_dropWorker 37 = .ok (.getfield 7, 3) := by decide +kernel
theorem dX7_dropWorker_40 : decode cX7_dropWorker 40 = .ok (.iconst 2, 1) := by decide +kernel
theorem dX7_dropWorker_41 : decode cX7_dropWorker 41 = .ok (.iload_n 2, 1) := by decide +kernel
theorem dX7_dropWorker_42 : decode cX7_dropWorker 42 = .ok (.iadd, 1) := by decide +kernel
theorem dX7_dropWorker_43 : decode cX7_dropWorker 43 = .ok (.aload_n 0, 1) := by decide +kernel
theorem dX7_dropWorker_44 : decode cX7_dropWorker 44 = .ok (.getfield 7, 3) := by decide +kernel
theorem dX7_dropWorker_47 : decode cX7_dropWorker 47 = .ok (.iconst 2, 1) := by decide +kernel
theorem dX7_dropWorker_48 : decode cX7_dropWorker 48 = .ok (.iload_n 2, 1) := by decide +kernel
theorem dX7_dropWorker_49 : decode cX7_dropWorker 49 = .ok (.iadd, 1) := by decide +kernel
theorem dX7_dropWorker_50 : decode cX7_dropWorker 50 = .ok (.iconst 1, 1) := by decide +kernel
theorem dX7_dropWorker_51 : decode cX7_dropWorker 51 = .ok (.iadd, 1) := by decide +kernel
theorem dX7_dropWorker_52 : decode cX7_dropWorker 52 = .ok (.iaload, 1) := by decide +kernel
theorem dX7_dropWorker_53 : decode cX7_dropWorker 53 = .ok (.iastore, 1) := by decide +kernel
theorem dX7_dropWorker_54 : decode cX7_dropWorker 54 = .ok (.iconst 0, 1) := by decide +kernel
theorem dX7_dropWorker_55 : decode cX7_dropWorker 55 = .ok (.istore_n 3, 1) := by decide +kernel
theorem dX7_dropWorker_56 : decode cX7_dropWorker 56 = .ok (.iload_n 3, 1) := by decide +kernel
theorem dX7_dropWorker_57 : decode cX7_dropWorker 57 = .ok (.bipush 7, 2) := by decide +kernel
theorem dX7_dropWorker_59 : decode cX7_dropWorker 59 = .ok (.if_icmp .ge 31, 3) := by decide +kernel
theorem dX7_dropWorker_62 : decode cX7_dropWorker 62 = .ok (.aload_n 0, 1) := by decide +kernel
theorem dX7_dropWorker_63 : decode cX7_dropWorker 63 = .ok (.getfield 7, 3) := by decide +kernel
theorem dX7_dropWorker_66 : decode cX7_dropWorker 66 = .ok (.bipush 9, 2) := by decide +kernel
theorem dX7_dropWorker_68 : decode cX7_dropWorker 68 = .ok (.bipush 7, 2) := by decide +kernel
theorem dX7_dropWorker_70 : decode cX7_dropWorker 70 = .ok (.iload_n 2, 1) := by decide +kernel
theorem dX7_dropWorker_71 : decode cX7_dropWorker 71 = .ok (.imul, 1) := by decide +kernel
theorem dX7_dropWorker_72 : decode cX7_dropWorker 72 = .ok (.iadd, 1) := by decide +kernel
theorem dX7_dropWorker_73 : decode cX7_dropWorker 73 = .ok (.iload_n 3, 1) := by decide +kernel
theorem dX7_dropWorker_74 : decode cX7_dropWorker 74 = .ok (.iadd, 1) := by decide +kernel
theorem dX7_dropWorker_75 : decode cX7_dropWorker 75 = .ok (.aload_n 0, 1) := by decide +kernel
theorem dX7_dropWorker_76 : decode cX7_dropWorker 76 = .ok (.iload_n 2, 1) := by decide +kernel
theorem dX7_dropWorker_77 : decode cX7_dropWorker 77 = .ok (.iconst 1, 1) := by decide +kernel
theorem dX7_dropWorker_78 : decode cX7_dropWorker 78 = .ok (.iadd, 1) := by decide +kernel
theorem dX7_dropWorker_79 : decode cX7_dropWorker 79 = .ok (.iload_n 3, 1) := by decide +kernel
theorem dX7_dropWorker_80 : decode cX7_dropWorker 80 = .ok (.invokevirtual 47, 3) := by decide +kernel
theorem dX7_dropWorker_83 : decode cX7_dropWorker 83 = .ok (.iastore, 1) := by decide +kernel
theorem dX7_dropWorker_84 : decode cX7_dropWorker 84 = .ok (.iinc 3 1, 3) := by decide +kernel
theorem dX7_dropWorker_87 : decode cX7_dropWorker 87 = .ok (.goto (-31), 3) := by decide +kernel
theorem dX7_dropWorker_90 : decode cX7_dropWorker 90 = .ok (.iinc 2 1, 3) := by decide +kernel
theorem dX7_dropWorker_93 : decode cX7_dropWorker 93 = .ok (.goto (-67), 3) := by decide +kernel
theorem dX7_dropWorker_96 : decode cX7_dropWorker 96 = .ok (.aload_n 0, 1) := by decide +kernel
theorem dX7_dropWorker_97 : decode cX7_dropWorker 97 = .ok (.getfield 7, 3) := by decide +kernel
theorem dX7_dropWorker_100 : decode cX7_dropWorker 100 = .ok (.iconst 0, 1) := by decide +kernel
theorem dX7_dropWorker_101 : decode cX7_dropWorker 101 = .ok (.iaload, 1) := by decide +kernel
theorem dX7_dropWorker_102 : decode cX7_dropWorker 102 = .ok (.ireturn, 1) := by decide +kernel
set_option maxRecDepth 20000 in
theorem ggX7_dropTask_X7_isTask : GoodIn wsX7_dropTask wsX7_isTask := goodIn_r _ [6, 1, 17, 18, 19, 20, 21, 22, 23, 24, 25, 26, 27, 28, 29, 30, 31, 32, 33, 34] (by decide +kernel) (by decide +kernel)
set_option maxRecDepth 20000 in
theorem gX7_dropTask_X7_isTask : GoodIn wsX7_dropTask (wsV RX7 79 RX7 yX7_isTask wsX7_isTask) := goodIn_app (goodIn_of _ (by decide +kernel)) ggX7_dropTask_X7_isTask
set_option maxRecDepth 20000 in
theorem ggX7_dropTask_X7_changes : GoodIn wsX7_dropTask wsX7_changes := goodIn_r _ [10, 11, 12, 1, 17, 18, 19, 20, 21, 22, 23, 24, 25, 26, 27, 28, 29, 30, 31, 32, 33, 34] (by decide +kernel) (by decide +kernel)
set_option maxRecDepth 20000 in
theorem gX7_dropTask_X7_changes : GoodIn wsX7_dropTask (wsV RX7 72 RX7 yX7_changes wsX7_changes) := goodIn_app (goodIn_of _ (by decide +kernel)) ggX7_dropTask_X7_changes
set_option maxRecDepth 20000 in
theorem ggX7_dropTask_X7_of : GoodIn wsX7_dropTask wsX7_of := goodIn_r _ [16, 1, 17, 18, 19, 20, 21, 22, 23, 24, 25, 26, 27, 28, 29, 30, 31, 32, 33, 34] (by decide +kernel) (by decide +kernel)
set_option maxRecDepth 20000 in
theorem gX7_dropTask_X7_of : GoodIn wsX7_dropTask (wsV RX7 47 RX7 yX7_of wsX7_of) := goodIn_app (goodIn_of _ (by decide +kernel)) ggX7_dropTask_X7_of
theorem dX7_dropTask_0 : decode cX7_dropTask 0 = .ok (.aload_n 0, 1) := by decide +kernel
theorem dX7_dropTask_1 : decode cX7_dropTask 1 = .ok (.iload_n 1, 1) := by decide +kernel
theorem dX7_dropTask_2 : decode cX7_dropTask 2 = .ok (.invokevirtual 79, 3) := by decide +kernel
theorem dX7_dropTask_5 : decode cX7_dropTask 5 = .ok (.ifCond .ne 5, 3) := by decide +kernel
theorem dX7_dropTask_8 : decode cX7_dropTask 8 = .ok (.iconst (-1), 1) := by decide +kernel
theorem dX7_dropTask_9 : decode cX7_dropTask 9 = .ok (.ireturn, 1) := by decide +kernel
theorem dX7_dropTask_10 : decode cX7_dropTask 10 = .ok (.aload_n 0, 1) := by decide +kernel
theorem dX7_dropTask_11 : decode cX7_dropTask 11 = .ok (.invokevirtual 72, 3) := by decide +kernel
theorem dX7_dropTask_14 : decode cX7_dropTask 14 = .ok (.aload_n 0, 1) := by decide +kernel
theorem dX7_dropTask_15 : decode cX7_dropTask 15 = .ok (.getfield 7, 3) := by decide +kernel
theorem dX7_dropTask_18 : decode cX7_dropTask 18 = .ok (.iconst 1, 1) := by decide +kernel
theorem dX7_dropTask_19 : decode cX7_dropTask 19 = .ok (.dup2, 1) := by decide +kernel
theorem dX7_dropTask_20 : decode cX7_dropTask 20 = .ok (.iaload, 1) := by decide +kernel
theorem dX7_dropTask_21 : decode cX7_dropTask 21 = .ok (.iconst 1, 1) := by decide +kernel
theorem dX7_dropTask_22 : decode cX7_dropTask 22 = .ok (.isub, 1) := by decide +kernel
theorem dX7_dropTask_23 : decode cX7_dropTask 23 = .ok (.iastore, 1) := by decide +kernel
theorem dX7_dropTask_24 : decode cX7_dropTask 24 = .ok (.iconst 0, 1) := by decide +kernel
theorem dX7_dropTask_25 : decode cX7_dropTask 25 = .ok (.istore_n 2, 1) := by decide +kernel
theorem dX7_dropTask_26 : decode cX7_dropTask 26 = .ok (.iload_n 2, 1) := by decide +kernel
theorem dX7_dropTask_27 : decode cX7_dropTask 27 = .ok (.aload_n 0, 1) := by decide +kernel
theorem dX7_dropTask_28 : decode cX7_dropTask 28 = .ok (.getfield 7, 3) := by decide +kernel
theorem dX7_dropTask_31 : decode cX7_dropTask 31 = .ok (.iconst 0, 1) := by decide +kernel
theorem dX7_dropTask_32 : decode cX7_dropTask 32 = .ok (.iaload, 1) := by decide +kernel
theorem dX7_dropTask_33 : decode cX7_dropTask 33 = .ok (.if_icmp .ge 49, 3) := by decide +kernel
theorem dX7_dropTask_36 : decode cX7_dropTask 36 = .ok (.iload_n 1, 1) := by decide +kernel
theorem dX7_dropTask_37 : decode cX7_dropTask 37 = .ok (.istore_n 3, 1) := by decide +kernel
theorem dX7_dropTask_38 : decode cX7_dropTask 38 = .ok (.iload_n 3, 1) := by decide +kernel
theorem dX7_dropTask_39 : decode cX7_dropTask 39 = .ok (.aload_n 0, 1) := by decide +kernel
theorem dX7_dropTask_40 : decode cX7_dropTask 40 = .ok (.getfield 7, 3) := by decide +kernel
theorem dX7_dropTask_43 : decode cX7_dropTask 43 = .ok (.iconst 1, 1) := by decide +kernel
theorem dX7_dropTask_44 : decode cX7_dropTask 44 = .ok (.iaload, 1) := by decide +kernel
theorem dX7_dropTask_45 : decode cX7_dropTask 45 = .ok (.if_icmp .ge 31, 3) := by decide +kernel
theorem dX7_dropTask_48 : decode cX7_dropTask 48 = .ok (.aload_n 0, 1) := by decide +kernel
theorem dX7_dropTask_49 : decode cX7_dropTask 49 = .ok (.getfield 7, 3) := by decide +kernel
theorem dX7_dropTask_52 : decode cX7_dropTask 52 = .ok (.bipush 9, 2) := by decide +kernel
theorem dX7_dropTask_54 : decode cX7_dropTask 54 = .ok (.bipush 7, 2) := by decide +kernel
theorem dX7_dropTask_56 : decode cX7_dropTask 56 = .ok (.iload_n 2, 1) := by decide +kernel
theorem dX7_dropTask_57 : decode cX7_dropTask 57 = .ok (.imul, 1) := by decide +kernel
theorem dX7_dropTask_58 : decode cX7_dropTask 58 = .ok (.iadd, 1) := by decide +kernel
theorem dX7_dropTask_59 : decode cX7_dropTask 59 = .ok (.iload_n 3, 1) := by decide +kernel
theorem dX7_dropTask_60 : decode cX7_dropTask 60 = .ok (.iadd, 1) := by decide +kernel
theorem dX7_dropTask_61 : decode cX7_dropTask 61 = .ok (.aload_n 0, 1) := by decide +kernel
theorem dX7_dropTask_62 : decode cX7_dropTask 62 = .ok (.iload_n 2, 1) := by decide +kernel
theorem dX7_dropTask_63 : decode cX7_dropTask 63 = .ok (.iload_n 3, 1) := by decide +kernel
theorem dX7_dropTask_64 : decode cX7_dropTask 64 = .ok (.iconst 1, 1) := by decide +kernel
theorem dX7_dropTask_65 : decode cX7_dropTask 65 = .ok (.iadd, 1) := by decide +kernel
theorem dX7_dropTask_66 : decode cX7_dropTask 66 = .ok (.invokevirtual 47, 3) := by decide +kernel
theorem dX7_dropTask_69 : decode cX7_dropTask 69 = .ok (.iastore, 1) := by decide +kernel
theorem dX7_dropTask_70 : decode cX7_dropTask 70 = .ok (.iinc 3 1, 3) := by decide +kernel
theorem dX7_dropTask_73 : decode cX7_dropTask 73 = .ok (.goto (-35), 3) := by decide +kernel
theorem dX7_dropTask_76 : decode cX7_dropTask 76 = .ok (.iinc 2 1, 3) := by decide +kernel
theorem dX7_dropTask_79 : decode cX7_dropTask 79 = .ok (.goto (-53), 3) := by decide +kernel
theorem dX7_dropTask_82 : decode cX7_dropTask 82 = .ok (.aload_n 0, 1) := by decide +kernel
theorem dX7_dropTask_83 : decode cX7_dropTask 83 = .ok (.getfield 7, 3) := by decide +kernel
theorem dX7_dropTask_86 : decode cX7_dropTask 86 = .ok (.iconst 1, 1) := by decide +kernel
theorem dX7_dropTask_87 : decode cX7_dropTask 87 = .ok (.iaload, 1) := by decide +kernel
theorem dX7_dropTask_88 : decode cX7_dropTask 88 = .ok (.ireturn, 1) := by decide +kernel
set_option maxRecDepth 20000 in
theorem ggX7_cost_X7_isWorker : GoodIn wsX7_cost wsX7_isWorker := goodIn_r _ [7, 1, 50, 51, 52, 53, 54, 55, 56, 57, 58, 59, 60, 61, 62, 63, 64, 65, 66, 67] (by decide +kernel) (by decide +kernel)
set_option maxRecDepth 20000 in
theorem gX7_cost_X7_isWorker : GoodIn wsX7_cost (wsV RX7 75 RX7 yX7_isWorker wsX7_isWorker) := goodIn_app (goodIn_of _ (by decide +kernel)) ggX7_cost_X7_isWorker
set_option maxRecDepth 20000 in
theorem ggX7_cost_X7_isTask : GoodIn wsX7_cost wsX7_isTask := goodIn_r _ [11, 1, 50, 51, 52, 53, 54, 55, 56, 57, 58, 59, 60, 61, 62, 63, 64, 65, 66, 67] (by decide +kernel) (by decide +kernel)
set_option maxRecDepth 20000 in
theorem gX7_cost_X7_isTask : GoodIn wsX7_cost (wsV RX7 79 RX7 yX7_isTask wsX7_isTask) := goodIn_app (goodIn_of _ (by decide +kernel)) ggX7_cost_X7_isTask
set_option maxRecDepth 20000 in
theorem ggX7_cost_X7_in : GoodIn wsX7_cost wsX7_in := goodIn_r _ [14] (by decide +kernel) (by decide +kernel)
set_option maxRecDepth 20000 in
theorem gX7_cost_X7_in : GoodIn wsX7_cost (va_wsS RX7 68 yX7_in wsX7_in) := goodIn_app (goodIn_of _ (by decide +kernel)) ggX7_cost_X7_in
set_option maxRecDepth 20000 in
theorem ggX7_cost_X7_changes : GoodIn wsX7_cost wsX7_changes := goodIn_r _ [18, 19, 20, 1, 50, 51, 52, 53, 54, 55, 56, 57, 58, 59, 60, 61, 62, 63, 64, 65, 66, 67] (by decide +kernel) (by decide +kernel)
set_option maxRecDepth 20000 in
theorem gX7_cost_X7_changes : GoodIn wsX7_cost (wsV RX7 72 RX7 yX7_changes wsX7_changes) := goodIn_app (goodIn_of _ (by decide +kernel)) ggX7_cost_X7_changes
set_option maxRecDepth 20000 in
theorem ggX7_cost_X7_leastTotal : GoodIn wsX7_cost wsX7_leastTotal := goodIn_r _ [24, 25, 26, 27, 6, 28, 1, 29, 30, 31, 32, 33, 34, 35, 36, 37, 38, 39, 40, 41, 42, 43, 44, 45, 46, 47, 48, 49, 50, 51, 52, 53, 54, 55, 56, 57, 58, 59, 60, 61, 62, 63, 64, 65, 66, 67] (by decide +kernel) (by decide +kernel)
set_option maxRecDepth 20000 in
theorem gX7_cost_X7_leastTotal : GoodIn wsX7_cost (wsV RX7 65 RX7 yX7_leastTotal wsX7_leastTotal) := goodIn_app (goodIn_of _ (by decide +kernel)) ggX7_cost_X7_leastTotal
theorem dX7_cost_0 : decode cX7_cost 0 = .ok (.aload_n 0, 1) := by decide +kernel
theorem dX7_cost_1 : decode cX7_cost 1 = .ok (.iload_n 1, 1) := by decide +kernel
theorem dX7_cost_2 : decode cX7_cost 2 = .ok (.invokevirtual 75, 3) := by decide +kernel
theorem dX7_cost_5 : decode cX7_cost 5 = .ok (.ifCond .eq 22, 3) := by decide +kernel
theorem dX7_cost_8 : decode cX7_cost 8 = .ok (.aload_n 0, 1) := by decide +kernel
theorem dX7_cost_9 : decode cX7_cost 9 = .ok (.iload_n 2, 1) := by decide +kernel
theorem dX7_cost_10 : decode cX7_cost 10 = .ok (.invokevirtual 79, 3) := by decide +kernel
theorem dX7_cost_13 : decode cX7_cost 13 = .ok (.ifCond .eq 14, 3) := by decide +kernel
theorem dX7_cost_16 : decode cX7_cost 16 = .ok (.iload_n 3, 1) := by decide +kernel
theorem dX7_cost_17 : decode cX7_cost 17 = .ok (.iconst 0, 1) := by decide +kernel
theorem dX7_cost_18 : decode cX7_cost 18 = .ok (.sipush 9999, 3) := by decide +kernel
theorem dX7_cost_21 : decode cX7_cost 21 = .ok (.invokestatic 68, 3) := by decide +kernel
theorem dX7_cost_24 : decode cX7_cost 24 = .ok (.ifCond .ne 5, 3) := by decide +kernel
theorem dX7_cost_27 : decode cX7_cost 27 = .ok (.iconst (-1), 1) := by decide +kernel
theorem dX7_cost_28 : decode cX7_cost 28 = .ok (.ireturn, 1) := by decide +kernel
theorem dX7_cost_29 : decode cX7_cost 29 = .ok (.aload_n 0, 1) := by decide +kernel
theorem dX7_cost_30 : decode cX7_cost 30 = .ok (.invokevirtual 72, 3) := by decide +kernel
theorem dX7_cost_33 : decode cX7_cost 33 = .ok (.aload_n 0, 1) := by decide +kernel
theorem dX7_cost_34 : decode cX7_cost 34 = .ok (.invokevirtual 65, 3) := by decide +kernel
theorem dX7_cost_37 : decode cX7_cost 37 = .ok (.istore 4, 2) := by decide +kernel
theorem dX7_cost_39 : decode cX7_cost 39 = .ok (.aload_n 0, 1) := by decide +kernel
theorem dX7_cost_40 : decode cX7_cost 40 = .ok (.getfield 7, 3) := by decide +kernel
theorem dX7_cost_43 : decode cX7_cost 43 = .ok (.bipush 9, 2) := by decide +kernel
theorem dX7_cost_45 : decode cX7_cost 45 = .ok (.bipush 7, 2) := by decide +kernel
theorem dX7_cost_47 : decode cX7_cost 47 = .ok (.iload_n 1, 1) := by decide +kernel
theorem dX7_cost_48 : decode cX7_cost 48 = .ok (.imul, 1) := by decide +kernel
theorem dX7_cost_49 : decode cX7_cost 49 = .ok (.iadd, 1) := by decide +kernel
theorem dX7_cost_50 : decode cX7_cost 50 = .ok (.iload_n 2, 1) := by decide +kernel
theorem dX7_cost_51 : decode cX7_cost 51 = .ok (.iadd, 1) := by decide +kernel
theorem dX7_cost_52 : decode cX7_cost 52 = .ok (.iload_n 3, 1) := by decide +kernel
theorem dX7_cost_53 : decode cX7_cost 53 = .ok (.iastore, 1) := by decide +kernel
theorem dX7_cost_54 : decode cX7_cost 54 = .ok (.aload_n 0, 1) := by decide +kernel
theorem dX7_cost_55 : decode cX7_cost 55 = .ok (.invokevirtual 65, 3) := by decide +kernel
theorem dX7_cost_58 : decode cX7_cost 58 = .ok (.iload 4, 2) := by decide +kernel
theorem dX7_cost_60 : decode cX7_cost 60 = .ok (.isub, 1) := by decide +kernel
theorem dX7_cost_61 : decode cX7_cost 61 = .ok (.ldc 82, 2) := by decide +kernel
theorem dX7_cost_63 : decode cX7_cost 63 = .ok (.iadd, 1) := by decide +kernel
theorem dX7_cost_64 : decode cX7_cost 64 = .ok (.ireturn, 1) := by decide +kernel
set_option maxRecDepth 20000 in
theorem ggX7_bar_X7_isWorker : GoodIn wsX7_bar wsX7_isWorker := goodIn_r _ [6, 1, 46, 47, 48, 49, 50, 51, 52, 53, 54, 55, 56, 57, 58, 59, 60, 61, 62, 63] (by decide +kernel) (by decide +kernel)
set_option maxRecDepth 20000 in
theorem gX7_bar_X7_isWorker : GoodIn wsX7_bar (wsV RX7 75 RX7 yX7_isWorker wsX7_isWorker) := goodIn_app (goodIn_of _ (by decide +kernel)) ggX7_bar_X7_isWorker
set_option maxRecDepth 20000 in
theorem ggX7_bar_X7_isTask : GoodIn wsX7_bar wsX7_isTask := goodIn_r _ [10, 1, 46, 47, 48, 49, 50, 51, 52, 53, 54, 55, 56, 57, 58, 59, 60, 61, 62, 63] (by decide +kernel) (by decide +kernel)
set_option maxRecDepth 20000 in
theorem gX7_bar_X7_isTask : GoodIn wsX7_bar (wsV RX7 79 RX7 yX7_isTask wsX7_isTask) := goodIn_app (goodIn_of _ (by decide +kernel)) ggX7_bar_X7_isTask
set_option maxRecDepth 20000 in
theorem ggX7_bar_X7_of : GoodIn wsX7_bar wsX7_of := goodIn_r _ [14, 1, 46, 47, 48, 49, 50, 51, 52, 53, 54, 55, 56, 57, 58, 59, 60, 61, 62, 63] (by decide +kernel) (by decide +kernel)
set_option maxRecDepth 20000 in
theorem gX7_bar_X7_of : GoodIn wsX7_bar (wsV RX7 47 RX7 yX7_of wsX7_of) := goodIn_app (goodIn_of _ (by decide +kernel)) ggX7_bar_X7_of
set_option maxRecDepth 20000 in
theorem ggX7_bar_X7_changes : GoodIn wsX7_bar wsX7_changes := goodIn_r _ [18, 19, 20, 1, 46, 47, 48, 49, 50, 51, 52, 53, 54, 55, 56, 57, 58, 59, 60, 61, 62, 63] (by decide +kernel) (by decide +kernel)
set_option maxRecDepth 20000 in
theorem gX7_bar_X7_changes : GoodIn wsX7_bar (wsV RX7 72 RX7 yX7_changes wsX7_changes) := goodIn_app (goodIn_of _ (by decide +kernel)) ggX7_bar_X7_changes
set_option maxRecDepth 20000 in
theorem ggX7_bar_X7_leastTotal : GoodIn wsX7_bar wsX7_leastTotal := goodIn_r _ [24, 25, 26, 27, 5, 28, 1, 29, 30, 31, 32, 33, 34, 35, 36, 37, 38, 39, 40, 41, 42, 43, 44, 45, 11, 12, 13, 14, 46, 47, 48, 49, 50, 51, 52, 53, 54, 55, 56, 57, 58, 59, 60, 61, 62, 63] (by decide +kernel) (by decide +kernel)
set_option maxRecDepth 20000 in
theorem gX7_bar_X7_leastTotal : GoodIn wsX7_bar (wsV RX7 65 RX7 yX7_leastTotal wsX7_leastTotal) := goodIn_app (goodIn_of _ (by decide +kernel)) ggX7_bar_X7_leastTotal
theorem dX7_bar_0 : decode cX7_bar 0 = .ok (.aload_n 0, 1) := by decide +kernel
theorem dX7_bar_1 : decode cX7_bar 1 = .ok (.iload_n 1, 1) := by decide +kernel
theorem dX7_bar_2 : decode cX7_bar 2 = .ok (.invokevirtual 75, 3) := by decide +kernel
theorem dX7_bar_5 : decode cX7_bar 5 = .ok (.ifCond .eq 11, 3) := by decide +kernel
theorem dX7_bar_8 : decode cX7_bar 8 = .ok (.aload_n 0, 1) := by decide +kernel
theorem dX7_bar_9 : decode cX7_bar 9 = .ok (.iload_n 2, 1) := by decide +kernel
theorem dX7_bar_10 : decode cX7_bar 10 = .ok (.invokevirtual 79, 3) := by decide +kernel
theorem dX7_bar_13 : decode cX7_bar 13 = .ok (.ifCond .ne 5, 3) := by decide +kernel
theorem dX7_bar_16 : decode cX7_bar 16 = .ok (.iconst (-1), 1) := by decide +kernel
theorem dX7_bar_17 : decode cX7_bar 17 = .ok (.ireturn, 1) := by decide +kernel
theorem dX7_bar_18 : decode cX7_bar 18 = .ok (.aload_n 0, 1) := by decide +kernel
theorem dX7_bar_19 : decode cX7_bar 19 = .ok (.iload_n 1, 1) := by decide +kernel
theorem dX7_bar_20 : decode cX7_bar 20 = .ok (.iload_n 2, 1) := by decide +kernel
theorem dX7_bar_21 : decode cX7_bar 21 = .ok (.invokevirtual 47, 3) := by decide +kernel
theorem dX7_bar_24 : decode cX7_bar 24 = .ok (.ifCond .ge 6, 3) := by decide +kernel
theorem dX7_bar_27 : decode cX7_bar 27 = .ok (.bipush (-2), 2) := by decide +kernel
theorem dX7_bar_29 : decode cX7_bar 29 = .ok (.ireturn, 1) := by decide +kernel
theorem dX7_bar_30 : decode cX7_bar 30 = .ok (.aload_n 0, 1) := by decide +kernel
theorem dX7_bar_31 : decode cX7_bar 31 = .ok (.invokevirtual 72, 3) := by decide +kernel
theorem dX7_bar_34 : decode cX7_bar 34 = .ok (.aload_n 0, 1) := by decide +kernel
theorem dX7_bar_35 : decode cX7_bar 35 = .ok (.invokevirtual 65, 3) := by decide +kernel
theorem dX7_bar_38 : decode cX7_bar 38 = .ok (.istore_n 3, 1) := by decide +kernel
theorem dX7_bar_39 : decode cX7_bar 39 = .ok (.aload_n 0, 1) := by decide +kernel
theorem dX7_bar_40 : decode cX7_bar 40 = .ok (.getfield 7, 3) := by decide +kernel
theorem dX7_bar_43 : decode cX7_bar 43 = .ok (.bipush 9, 2) := by decide +kernel
theorem dX7_bar_45 : decode cX7_bar 45 = .ok (.bipush 7, 2) := by decide +kernel
theorem dX7_bar_47 : decode cX7_bar 47 = .ok (.iload_n 1, 1) := by decide +kernel
theorem dX7_bar_48 : decode cX7_bar 48 = .ok (.imul, 1) := by decide +kernel
theorem dX7_bar_49 : decode cX7_bar 49 = .ok (.iadd, 1) := by decide +kernel
theorem dX7_bar_50 : decode cX7_bar 50 = .ok (.iload_n 2, 1) := by decide +kernel
theorem dX7_bar_51 : decode cX7_bar 51 = .ok (.iadd, 1) := by decide +kernel
theorem dX7_bar_52 : decode cX7_bar 52 = .ok (.iconst (-1), 1) := by decide +kernel
theorem dX7_bar_53 : decode cX7_bar 53 = .ok (.iastore, 1) := by decide +kernel
theorem dX7_bar_54 : decode cX7_bar 54 = .ok (.aload_n 0, 1) := by decide +kernel
theorem dX7_bar_55 : decode cX7_bar 55 = .ok (.invokevirtual 65, 3) := by decide +kernel
theorem dX7_bar_58 : decode cX7_bar 58 = .ok (.iload_n 3, 1) := by decide +kernel
theorem dX7_bar_59 : decode cX7_bar 59 = .ok (.isub, 1) := by decide +kernel
theorem dX7_bar_60 : decode cX7_bar 60 = .ok (.ireturn, 1) := by decide +kernel
set_option maxRecDepth 20000 in
theorem ggX7_idle_X7_isWorker : GoodIn wsX7_idle wsX7_isWorker := goodIn_r _ [6, 1, 16, 17, 18, 19, 20, 21, 22, 23, 24, 25, 26, 27, 28, 29, 30, 31, 32, 33] (by decide +kernel) (by decide +kernel)
set_option maxRecDepth 20000 in
theorem gX7_idle_X7_isWorker : GoodIn wsX7_idle (wsV RX7 75 RX7 yX7_isWorker wsX7_isWorker) := goodIn_app (goodIn_of _ (by decide +kernel)) ggX7_idle_X7_isWorker
set_option maxRecDepth 20000 in
theorem ggX7_idle_X7_in : GoodIn wsX7_idle wsX7_in := goodIn_r _ [9] (by decide +kernel) (by decide +kernel)
set_option maxRecDepth 20000 in
theorem gX7_idle_X7_in : GoodIn wsX7_idle (va_wsS RX7 68 yX7_in wsX7_in) := goodIn_app (goodIn_of _ (by decide +kernel)) ggX7_idle_X7_in
set_option maxRecDepth 20000 in
theorem ggX7_idle_X7_changes : GoodIn wsX7_idle wsX7_changes := goodIn_r _ [13, 14, 15, 1, 16, 17, 18, 19, 20, 21, 22, 23, 24, 25, 26, 27, 28, 29, 30, 31, 32, 33] (by decide +kernel) (by decide +kernel)
set_option maxRecDepth 20000 in
theorem gX7_idle_X7_changes : GoodIn wsX7_idle (wsV RX7 72 RX7 yX7_changes wsX7_changes) := goodIn_app (goodIn_of _ (by decide +kernel)) ggX7_idle_X7_changes
theorem dX7_idle_0 : decode cX7_idle 0 = .ok (.aload_n 0, 1) := by decide +kernel
theorem dX7_idle_1 : decode cX7_idle 1 = .ok (.iload_n 1, 1) := by decide +kernel
theorem dX7_idle_2 : decode cX7_idle 2 = .ok (.invokevirtual 75, 3) := by decide +kernel
theorem dX7_idle_5 : decode cX7_idle 5 = .ok (.ifCond .eq 14, 3) := by decide +kernel
theorem dX7_idle_8 : decode cX7_idle 8 = .ok (.iload_n 2, 1) := by decide +kernel
theorem dX7_idle_9 : decode cX7_idle 9 = .ok (.iconst 0, 1) := by decide +kernel
theorem dX7_idle_10 : decode cX7_idle 10 = .ok (.sipush 9999, 3) := by decide +kernel
theorem dX7_idle_13 : decode cX7_idle 13 = .ok (.invokestatic 68, 3) := by decide +kernel
theorem dX7_idle_16 : decode cX7_idle 16 = .ok (.ifCond .ne 5, 3) := by decide +kernel
theorem dX7_idle_19 : decode cX7_idle 19 = .ok (.iconst (-1), 1) := by decide +kernel
theorem dX7_idle_20 : decode cX7_idle 20 = .ok (.ireturn, 1) := by decide +kernel
theorem dX7_idle_21 : decode cX7_idle 21 = .ok (.aload_n 0, 1) := by decide +kernel
theorem dX7_idle_22 : decode cX7_idle 22 = .ok (.invokevirtual 72, 3) := by decide +kernel
theorem dX7_idle_25 : decode cX7_idle 25 = .ok (.aload_n 0, 1) := by decide +kernel
theorem dX7_idle_26 : decode cX7_idle 26 = .ok (.getfield 7, 3) := by decide +kernel
theorem dX7_idle_29 : decode cX7_idle 29 = .ok (.iconst 2, 1) := by decide +kernel
theorem dX7_idle_30 : decode cX7_idle 30 = .ok (.iload_n 1, 1) := by decide +kernel
theorem dX7_idle_31 : decode cX7_idle 31 = .ok (.iadd, 1) := by decide +kernel
theorem dX7_idle_32 : decode cX7_idle 32 = .ok (.iaload, 1) := by decide +kernel
theorem dX7_idle_33 : decode cX7_idle 33 = .ok (.istore_n 3, 1) := by decide +kernel
theorem dX7_idle_34 : decode cX7_idle 34 = .ok (.aload_n 0, 1) := by decide +kernel
theorem dX7_idle_35 : decode cX7_idle 35 = .ok (.getfield 7, 3) := by decide +kernel
theorem dX7_idle_38 : decode cX7_idle 38 = .ok (.iconst 2, 1) := by decide +kernel
theorem dX7_idle_39 : decode cX7_idle 39 = .ok (.iload_n 1, 1) := by decide +kernel
theorem dX7_idle_40 : decode cX7_idle 40 = .ok (.iadd, 1) := by decide +kernel
theorem dX7_idle_41 : decode cX7_idle 41 = .ok (.iload_n 2, 1) := by decide +kernel
theorem dX7_idle_42 : decode cX7_idle 42 = .ok (.iastore, 1) := by decide +kernel
theorem dX7_idle_43 : decode cX7_idle 43 = .ok (.iload_n 3, 1) := by decide +kernel
theorem dX7_idle_44 : decode cX7_idle 44 = .ok (.ireturn, 1) := by decide +kernel
set_option maxRecDepth 20000 in
theorem ggX7_greatestOf_X7_of : GoodIn wsX7_greatestOf wsX7_of := goodIn_r _ [6, 1, 7, 8, 9, 10, 11, 12, 13, 14, 15, 16, 17, 18, 19, 20, 21, 22, 23, 24] (by decide +kernel) (by decide +kernel)
set_option maxRecDepth 20000 in
theorem gX7_greatestOf_X7_of : GoodIn wsX7_greatestOf (wsV RX7 47 RX7 yX7_of wsX7_of) := goodIn_app (goodIn_of _ (by decide +kernel)) ggX7_greatestOf_X7_of
theorem dX7_greatestOf_0 : decode cX7_greatestOf 0 = .ok (.aload_n 0, 1) := by decide +kernel
theorem dX7_greatestOf_1 : decode cX7_greatestOf 1 = .ok (.getfield 7, 3) := by decide +kernel
theorem dX7_greatestOf_4 : decode cX7_greatestOf 4 = .ok (.iconst 2, 1) := by decide +kernel
theorem dX7_greatestOf_5 : decode cX7_greatestOf 5 = .ok (.iload_n 1, 1) := by decide +kernel
theorem dX7_greatestOf_6 : decode cX7_greatestOf 6 = .ok (.iadd, 1) := by decide +kernel
theorem dX7_greatestOf_7 : decode cX7_greatestOf 7 = .ok (.iaload, 1) := by decide +kernel
theorem dX7_greatestOf_8 : decode cX7_greatestOf 8 = .ok (.istore_n 2, 1) := by decide +kernel
theorem dX7_greatestOf_9 : decode cX7_greatestOf 9 = .ok (.iconst 0, 1) := by decide +kernel
theorem dX7_greatestOf_10 : decode cX7_greatestOf 10 = .ok (.istore_n 3, 1) := by decide +kernel
theorem dX7_greatestOf_11 : decode cX7_greatestOf 11 = .ok (.iload_n 3, 1) := by decide +kernel
theorem dX7_greatestOf_12 : decode cX7_greatestOf 12 = .ok (.aload_n 0, 1) := by decide +kernel
theorem dX7_greatestOf_13 : decode cX7_greatestOf 13 = .ok (.getfield 7, 3) := by decide +kernel
theorem dX7_greatestOf_16 : decode cX7_greatestOf 16 = .ok (.iconst 1, 1) := by decide +kernel
theorem dX7_greatestOf_17 : decode cX7_greatestOf 17 = .ok (.iaload, 1) := by decide +kernel
theorem dX7_greatestOf_18 : decode cX7_greatestOf 18 = .ok (.if_icmp .ge 30, 3) := by decide +kernel
theorem dX7_greatestOf_21 : decode cX7_greatestOf 21 = .ok (.aload_n 0, 1) := by decide +kernel
theorem dX7_greatestOf_22 : decode cX7_greatestOf 22 = .ok (.iload_n 1, 1) := by decide +kernel
theorem dX7_greatestOf_23 : decode cX7_greatestOf 23 = .ok (.iload_n 3, 1) := by decide +kernel
theorem dX7_greatestOf_24 : decode cX7_greatestOf 24 = .ok (.invokevirtual 47, 3) := by decide +kernel
theorem dX7_greatestOf_27 : decode cX7_greatestOf 27 = .ok (.iload_n 2, 1) := by decide +kernel
theorem dX7_greatestOf_28 : decode cX7_greatestOf 28 = .ok (.if_icmp .le 12, 3) := by decide +kernel
theorem dX7_greatestOf_31 : decode cX7_greatestOf 31 = .ok (.aload_n 0, 1) := by decide +kernel
theorem dX7_greatestOf_32 : decode cX7_greatestOf 32 = .ok (.iload_n 1, 1) := by decide +kernel
theorem dX7_greatestOf_33 : decode cX7_greatestOf 33 = .ok (.iload_n 3, 1) := by decide +kernel
theorem dX7_greatestOf_34 : decode cX7_greatestOf 34 = .ok (.invokevirtual 47, 3) := by decide +kernel
theorem dX7_greatestOf_37 : decode cX7_greatestOf 37 = .ok (.goto 4, 3) := by decide +kernel
theorem dX7_greatestOf_40 : decode cX7_greatestOf 40 = .ok (.iload_n 2, 1) := by decide +kernel
theorem dX7_greatestOf_41 : decode cX7_greatestOf 41 = .ok (.istore_n 2, 1) := by decide +kernel
theorem dX7_greatestOf_42 : decode cX7_greatestOf 42 = .ok (.iinc 3 1, 3) := by decide +kernel
theorem dX7_greatestOf_45 : decode cX7_greatestOf 45 = .ok (.goto (-34), 3) := by decide +kernel
theorem dX7_greatestOf_48 : decode cX7_greatestOf 48 = .ok (.iload_n 2, 1) := by decide +kernel
theorem dX7_greatestOf_49 : decode cX7_greatestOf 49 = .ok (.ireturn, 1) := by decide +kernel
set_option maxRecDepth 20000 in
theorem ggX7_times_X7_isWorker : GoodIn wsX7_times wsX7_isWorker := goodIn_r _ [8, 3, 26, 27, 28, 29, 30, 31, 32, 33, 34, 35, 36, 37, 38, 39, 40, 41, 42, 43] (by decide +kernel) (by decide +kernel)
set_option maxRecDepth 20000 in
theorem gX7_times_X7_isWorker : GoodIn wsX7_times (wsV RX7 75 RX7 yX7_isWorker wsX7_isWorker) := goodIn_app (goodIn_of _ (by decide +kernel)) ggX7_times_X7_isWorker
set_option maxRecDepth 20000 in
theorem ggX7_times_X7_in : GoodIn wsX7_times wsX7_in := goodIn_r _ [11] (by decide +kernel) (by decide +kernel)
set_option maxRecDepth 20000 in
theorem gX7_times_X7_in : GoodIn wsX7_times (va_wsS RX7 68 yX7_in wsX7_in) := goodIn_app (goodIn_of _ (by decide +kernel)) ggX7_times_X7_in
set_option maxRecDepth 20000 in
theorem ggX7_times_X7_greatestOf : GoodIn wsX7_times wsX7_greatestOf := goodIn_r _ [15, 3, 16, 17, 18, 7, 19, 26, 27, 28, 29, 30, 31, 32, 33, 34, 35, 36, 37, 38, 39, 40, 41, 42, 43] (by decide +kernel) (by decide +kernel)
set_option maxRecDepth 20000 in
theorem gX7_times_X7_greatestOf : GoodIn wsX7_times (wsV RX7 84 RX7 yX7_greatestOf wsX7_greatestOf) := goodIn_app (goodIn_of _ (by decide +kernel)) ggX7_times_X7_greatestOf
set_option maxRecDepth 20000 in
theorem ggX7_times_X7_changes : GoodIn wsX7_times wsX7_changes := goodIn_r _ [23, 24, 25, 3, 26, 27, 28, 29, 30, 31, 32, 33, 34, 35, 36, 37, 38, 39, 40, 41, 42, 43] (by decide +kernel) (by decide +kernel)
set_option maxRecDepth 20000 in
theorem gX7_times_X7_changes : GoodIn wsX7_times (wsV RX7 72 RX7 yX7_changes wsX7_changes) := goodIn_app (goodIn_of _ (by decide +kernel)) ggX7_times_X7_changes
set_option maxRecDepth 20000 in
theorem ggX7_times_X7_of : GoodIn wsX7_times wsX7_of := goodIn_r _ [19, 3, 26, 27, 28, 29, 30, 31, 32, 33, 34, 35, 36, 37, 38, 39, 40, 41, 42, 43] (by decide +kernel) (by decide +kernel)
set_option maxRecDepth 20000 in
theorem gX7_times_X7_of : GoodIn wsX7_times (wsV RX7 47 RX7 yX7_of wsX7_of) := goodIn_app (goodIn_of _ (by decide +kernel)) ggX7_times_X7_of
theorem dX7_times_0 : decode cX7_times 0 = .ok (.aload_n 0, 1) := by decide +kernel
theorem dX7_times_1 : decode cX7_times 1 = .ok (.iload_n 1, 1) := by decide +kernel
theorem dX7_times_2 : decode cX7_times 2 = .ok (.invokevirtual 75, 3) := by decide +kernel
theorem dX7_times_5 : decode cX7_times 5 = .ok (.ifCond .eq 13, 3) := by decide +kernel
theorem dX7_times_8 : decode cX7_times 8 = .ok (.iload_n 2, 1) := by decide +kernel
theorem dX7_times_9 : decode cX7_times 9 = .ok (.iconst 0, 1) := by decide +kernel
theorem dX7_times_10 : decode cX7_times 10 = .ok (.ldc 83, 2) := by decide +kernel
theorem dX7_times_12 : decode cX7_times 12 = .ok (.invokestatic 68, 3) := by decide +kernel
theorem dX7_times_15 : decode cX7_times 15 = .ok (.ifCond .ne 5, 3) := by decide +kernel
theorem dX7_times_18 : decode cX7_times 18 = .ok (.iconst (-1), 1) := by decide +kernel
theorem dX7_times_19 : decode cX7_times 19 = .ok (.ireturn, 1) := by decide +kernel
theorem dX7_times_20 : decode cX7_times 20 = .ok (.aload_n 0, 1) := by decide +kernel
theorem dX7_times_21 : decode cX7_times 21 = .ok (.iload_n 1, 1) := by decide +kernel
theorem dX7_times_22 : decode cX7_times 22 = .ok (.invokevirtual 84, 3) := by decide +kernel
theorem dX7_times_25 : decode cX7_times 25 = .ok (.i2l, 1) := by decide +kernel
theorem dX7_times_26 : decode cX7_times 26 = .ok (.iload_n 2, 1) := by decide +kernel
theorem dX7_times_27 : decode cX7_times 27 = .ok (.i2l, 1) := by decide +kernel
theorem dX7_times_28 : decode cX7_times 28 = .ok (.lmul, 1) := by decide +kernel
theorem dX7_times_29 : decode cX7_times 29 = .ok (.ldc2_w 88, 3) := by decide +kernel
theorem dX7_times_32 : decode cX7_times 32 = .ok (.lcmp, 1) := by decide +kernel
theorem dX7_times_33 : decode cX7_times 33 = .ok (.ifCond .le 6, 3) := by decide +kernel
theorem dX7_times_36 : decode cX7_times 36 = .ok (.bipush (-3), 2) := by decide +kernel
theorem dX7_times_38 : decode cX7_times 38 = .ok (.ireturn, 1) := by decide +kernel
theorem dX7_times_39 : decode cX7_times 39 = .ok (.aload_n 0, 1) := by decide +kernel
theorem dX7_times_40 : decode cX7_times 40 = .ok (.invokevirtual 72, 3) := by decide +kernel
theorem dX7_times_43 : decode cX7_times 43 = .ok (.aload_n 0, 1) := by decide +kernel
theorem dX7_times_44 : decode cX7_times 44 = .ok (.getfield 7, 3) := by decide +kernel
theorem dX7_times_47 : decode cX7_times 47 = .ok (.iconst 2, 1) := by decide +kernel
theorem dX7_times_48 : decode cX7_times 48 = .ok (.iload_n 1, 1) := by decide +kernel
theorem dX7_times_49 : decode cX7_times 49 = .ok (.iadd, 1) := by decide +kernel
theorem dX7_times_50 : decode cX7_times 50 = .ok (.aload_n 0, 1) := by decide +kernel
theorem dX7_times_51 : decode cX7_times 51 = .ok (.getfield 7, 3) := by decide +kernel
theorem dX7_times_54 : decode cX7_times 54 = .ok (.iconst 2, 1) := by decide +kernel
theorem dX7_times_55 : decode cX7_times 55 = .ok (.iload_n 1, 1) := by decide +kernel
theorem dX7_times_56 : decode cX7_times 56 = .ok (.iadd, 1) := by decide +kernel
theorem dX7_times_57 : decode cX7_times 57 = .ok (.iaload, 1) := by decide +kernel
theorem dX7_times_58 : decode cX7_times 58 = .ok (.ifCond .ne 7, 3) := by decide +kernel
theorem dX7_times_61 : decode cX7_times 61 = .ok (.iconst 0, 1) := by decide +kernel
theorem dX7_times_62 : decode cX7_times 62 = .ok (.goto 13, 3) := by decide +kernel
theorem dX7_times_65 : decode cX7_times 65 = .ok (.aload_n 0, 1) := by decide +kernel
theorem dX7_times_66 : decode cX7_times 66 = .ok (.getfield 7, 3) := by decide +kernel
theorem dX7_times_69 : decode cX7_times 69 = .ok (.iconst 2, 1) := by decide +kernel
theorem dX7_times_70 : decode cX7_times 70 = .ok (.iload_n 1, 1) := by decide +kernel
theorem dX7_times_71 : decode cX7_times 71 = .ok (.iadd, 1) := by decide +kernel
theorem dX7_times_72 : decode cX7_times 72 = .ok (.iaload, 1) := by decide +kernel
theorem dX7_times_73 : decode cX7_times 73 = .ok (.iload_n 2, 1) := by decide +kernel
theorem dX7_times_74 : decode cX7_times 74 = .ok (.imul, 1) := by decide +kernel
theorem dX7_times_75 : decode cX7_times 75 = .ok (.iastore, 1) := by decide +kernel
theorem dX7_times_76 : decode cX7_times 76 = .ok (.iconst 0, 1) := by decide +kernel
theorem dX7_times_77 : decode cX7_times 77 = .ok (.istore_n 3, 1) := by decide +kernel
theorem dX7_times_78 : decode cX7_times 78 = .ok (.iload_n 3, 1) := by decide +kernel
theorem dX7_times_79 : decode cX7_times 79 = .ok (.aload_n 0, 1) := by decide +kernel
theorem dX7_times_80 : decode cX7_times 80 = .ok (.getfield 7, 3) := by decide +kernel
theorem dX7_times_83 : decode cX7_times 83 = .ok (.iconst 1, 1) := by decide +kernel
theorem dX7_times_84 : decode cX7_times 84 = .ok (.iaload, 1) := by decide +kernel
theorem dX7_times_85 : decode cX7_times 85 = .ok (.if_icmp .ge 45, 3) := by decide +kernel
theorem dX7_times_88 : decode cX7_times 88 = .ok (.aload_n 0, 1) := by decide +kernel
theorem dX7_times_89 : decode cX7_times 89 = .ok (.iload_n 1, 1) := by decide +kernel
theorem dX7_times_90 : decode cX7_times 90 = .ok (.iload_n 3, 1) := by decide +kernel
theorem dX7_times_91 : decode cX7_times 91 = .ok (.invokevirtual 47, 3) := by decide +kernel
theorem dX7_times_94 : decode cX7_times 94 = .ok (.istore 4, 2) := by decide +kernel
theorem dX7_times_96 : decode cX7_times 96 = .ok (.aload_n 0, 1) := by decide +kernel
theorem dX7_times_97 : decode cX7_times 97 = .ok (.getfield 7, 3) := by decide +kernel
theorem dX7_times_100 : decode cX7_times 100 = .ok (.bipush 9, 2) := by decide +kernel
theorem dX7_times_102 : decode cX7_times 102 = .ok (.bipush 7, 2) := by decide +kernel
theorem dX7_times_104 : decode cX7_times 104 = .ok (.iload_n 1, 1) := by decide +kernel
theorem dX7_times_105 : decode cX7_times 105 = .ok (.imul, 1) := by decide +kernel
theorem dX7_times_106 : decode cX7_times 106 = .ok (.iadd, 1) := by decide +kernel
theorem dX7_times_107 : decode cX7_times 107 = .ok (.iload_n 3, 1) := by decide +kernel
theorem dX7_times_108 : decode cX7_times 108 = .ok (.iadd, 1) := by decide +kernel
theorem dX7_times_109 : decode cX7_times 109 = .ok (.iload 4, 2) := by decide +kernel
theorem dX7_times_111 : decode cX7_times 111 = .ok (.ifCond .le 10, 3) := by decide +kernel
theorem dX7_times_114 : decode cX7_times 114 = .ok (.iload 4, 2) := by decide +kernel
theorem dX7_times_116 : decode cX7_times 116 = .ok (.iload_n 2, 1) := by decide +kernel
theorem dX7_times_117 : decode cX7_times 117 = .ok (.imul, 1) := by decide +kernel
theorem dX7_times_118 : decode cX7_times 118 = .ok (.goto 5, 3) := by decide +kernel
theorem dX7_times_121 : decode cX7_times 121 = .ok (.iload 4, 2) := by decide +kernel
theorem dX7_times_123 : decode cX7_times 123 = .ok (.iastore, 1) := by decide +kernel
theorem dX7_times_124 : decode cX7_times 124 = .ok (.iinc 3 1, 3) := by decide +kernel
theorem dX7_times_127 : decode cX7_times 127 = .ok (.goto (-49), 3) := by decide +kernel
theorem dX7_times_130 : decode cX7_times 130 = .ok (.aload_n 0, 1) := by decide +kernel
theorem dX7_times_131 : decode cX7_times 131 = .ok (.iload_n 1, 1) := by decide +kernel
theorem dX7_times_132 : decode cX7_times 132 = .ok (.invokevirtual 84, 3) := by decide +kernel
theorem dX7_times_135 : decode cX7_times 135 = .ok (.ireturn, 1) := by decide +kernel
set_option maxRecDepth 20000 in
theorem ggX7_costOf_X7_isWorker : GoodIn wsX7_costOf wsX7_isWorker := goodIn_r _ [6, 1, 15, 16, 17, 18, 19, 20, 21, 22, 23, 24, 25, 26, 27, 28, 29, 30, 31, 32] (by decide +kernel) (by decide +kernel)
set_option maxRecDepth 20000 in
theorem gX7_costOf_X7_isWorker : GoodIn wsX7_costOf (wsV RX7 75 RX7 yX7_isWorker wsX7_isWorker) := goodIn_app (goodIn_of _ (by decide +kernel)) ggX7_costOf_X7_isWorker
set_option maxRecDepth 20000 in
theorem ggX7_costOf_X7_isTask : GoodIn wsX7_costOf wsX7_isTask := goodIn_r _ [10, 1, 15, 16, 17, 18, 19, 20, 21, 22, 23, 24, 25, 26, 27, 28, 29, 30, 31, 32] (by decide +kernel) (by decide +kernel)
set_option maxRecDepth 20000 in
theorem gX7_costOf_X7_isTask : GoodIn wsX7_costOf (wsV RX7 79 RX7 yX7_isTask wsX7_isTask) := goodIn_app (goodIn_of _ (by decide +kernel)) ggX7_costOf_X7_isTask
set_option maxRecDepth 20000 in
theorem ggX7_costOf_X7_of : GoodIn wsX7_costOf wsX7_of := goodIn_r _ [14, 1, 15, 16, 17, 18, 19, 20, 21, 22, 23, 24, 25, 26, 27, 28, 29, 30, 31, 32] (by decide +kernel) (by decide +kernel)
set_option maxRecDepth 20000 in
theorem gX7_costOf_X7_of : GoodIn wsX7_costOf (wsV RX7 47 RX7 yX7_of wsX7_of) := goodIn_app (goodIn_of _ (by decide +kernel)) ggX7_costOf_X7_of
theorem dX7_costOf_0 : decode cX7_costOf 0 = .ok (.aload_n 0, 1) := by decide +kernel
theorem dX7_costOf_1 : decode cX7_costOf 1 = .ok (.iload_n 1, 1) := by decide +kernel
theorem dX7_costOf_2 : decode cX7_costOf 2 = .ok (.invokevirtual 75, 3) := by decide +kernel
theorem dX7_costOf_5 : decode cX7_costOf 5 = .ok (.ifCond .eq 16, 3) := by decide +kernel
theorem dX7_costOf_8 : decode cX7_costOf 8 = .ok (.iload_n 2, 1) := by decide +kernel
theorem dX7_costOf_9 : decode cX7_costOf 9 = .ok (.iconst (-1), 1) := by decide +kernel
theorem dX7_costOf_10 : decode cX7_costOf 10 = .ok (.if_icmp .eq 13, 3) := by decide +kernel
theorem dX7_costOf_13 : decode cX7_costOf 13 = .ok (.aload_n 0, 1) := by decide +kernel
theorem dX7_costOf_14 : decode cX7_costOf 14 = .ok (.iload_n 2, 1) := by decide +kernel
theorem dX7_costOf_15 : decode cX7_costOf 15 = .ok (.invokevirtual 79, 3) := by decide +kernel
theorem dX7_costOf_18 : decode cX7_costOf 18 = .ok (.ifCond .ne 5, 3) := by decide +kernel
theorem dX7_costOf_21 : decode cX7_costOf 21 = .ok (.iconst (-1), 1) := by decide +kernel
theorem dX7_costOf_22 : decode cX7_costOf 22 = .ok (.ireturn, 1) := by decide +kernel
theorem dX7_costOf_23 : decode cX7_costOf 23 = .ok (.iload_n 2, 1) := by decide +kernel
theorem dX7_costOf_24 : decode cX7_costOf 24 = .ok (.ifCond .ge 14, 3) := by decide +kernel
theorem dX7_costOf_27 : decode cX7_costOf 27 = .ok (.aload_n 0, 1) := by decide +kernel
theorem dX7_costOf_28 : decode cX7_costOf 28 = .ok (.getfield 7, 3) := by decide +kernel
theorem dX7_costOf_31 : decode cX7_costOf 31 = .ok (.iconst 2, 1) := by decide +kernel
theorem dX7_costOf_32 : decode cX7_costOf 32 = .ok (.iload_n 1, 1) := by decide +kernel
theorem dX7_costOf_33 : decode cX7_costOf 33 = .ok (.iadd, 1) := by decide +kernel
theorem dX7_costOf_34 : decode cX7_costOf 34 = .ok (.iaload, 1) := by decide +kernel
theorem dX7_costOf_35 : decode cX7_costOf 35 = .ok (.goto 23, 3) := by decide +kernel
theorem dX7_costOf_38 : decode cX7_costOf 38 = .ok (.aload_n 0, 1) := by decide +kernel
theorem dX7_costOf_39 : decode cX7_costOf 39 = .ok (.iload_n 1, 1) := by decide +kernel
theorem dX7_costOf_40 : decode cX7_costOf 40 = .ok (.iload_n 2, 1) := by decide +kernel
theorem dX7_costOf_41 : decode cX7_costOf 41 = .ok (.invokevirtual 47, 3) := by decide +kernel
theorem dX7_costOf_44 : decode cX7_costOf 44 = .ok (.ifCond .ge 8, 3) := by decide +kernel
theorem dX7_costOf_47 : decode cX7_costOf 47 = .ok (.bipush (-4), 2) := by decide +kernel
theorem dX7_costOf_49 : decode cX7_costOf 49 = .ok (.goto 9, 3) := by decide +kernel
theorem dX7_costOf_52 : decode cX7_costOf 52 = .ok (.aload_n 0, 1) := by decide +kernel
theorem dX7_costOf_53 : decode cX7_costOf 53 = .ok (.iload_n 1, 1) := by decide +kernel
theorem dX7_costOf_54 : decode cX7_costOf 54 = .ok (.iload_n 2, 1) := by decide +kernel
theorem dX7_costOf_55 : decode cX7_costOf 55 = .ok (.invokevirtual 47, 3) := by decide +kernel
theorem dX7_costOf_58 : decode cX7_costOf 58 = .ok (.ireturn, 1) := by decide +kernel
set_option maxRecDepth 20000 in
theorem ggX7_total_X7_leastTotal : GoodIn wsX7_total wsX7_leastTotal := goodIn_r _ [5, 6, 7, 8, 4, 9, 10, 11, 12, 13, 14, 15, 16, 17, 18, 19, 20, 21, 22, 23, 24, 25, 26, 27, 28, 29, 30, 31, 32, 33, 34, 35, 36, 37, 38, 39, 40, 41, 42, 43, 44, 45, 46, 47, 48, 49] (by decide +kernel) (by decide +kernel)
set_option maxRecDepth 20000 in
theorem gX7_total_X7_leastTotal : GoodIn wsX7_total (wsV RX7 65 RX7 yX7_leastTotal wsX7_leastTotal) := goodIn_app (goodIn_of _ (by decide +kernel)) ggX7_total_X7_leastTotal
theorem dX7_total_0 : decode cX7_total 0 = .ok (.aload_n 0, 1) := by decide +kernel
theorem dX7_total_1 : decode cX7_total 1 = .ok (.invokevirtual 65, 3) := by decide +kernel
theorem dX7_total_4 : decode cX7_total 4 = .ok (.ireturn, 1) := by decide +kernel
set_option maxRecDepth 20000 in
theorem ggX7_plans_X7_leastTotal : GoodIn wsX7_plans wsX7_leastTotal := goodIn_r _ [7, 8, 9, 10, 6, 11, 1, 12, 13, 14, 15, 16, 17, 18, 19, 20, 21, 22, 23, 24, 25, 26, 27, 28, 29, 30, 31, 32, 33, 34, 35, 36, 37, 38, 39, 40, 41, 42, 43, 44, 45, 46, 47, 48, 49, 50] (by decide +kernel) (by decide +kernel)
set_option maxRecDepth 20000 in
theorem gX7_plans_X7_leastTotal : GoodIn wsX7_plans (wsV RX7 65 RX7 yX7_leastTotal wsX7_leastTotal) := goodIn_app (goodIn_of _ (by decide +kernel)) ggX7_plans_X7_leastTotal
set_option maxRecDepth 20000 in
theorem ggX7_plans_X7_allWorkers : GoodIn wsX7_plans wsX7_allWorkers := goodIn_r _ [11, 1, 33, 34, 35, 36, 37, 38, 39, 40, 41, 42, 43, 44, 45, 46, 47, 48, 49, 50] (by decide +kernel) (by decide +kernel)
set_option maxRecDepth 20000 in
theorem gX7_plans_X7_allWorkers : GoodIn wsX7_plans (wsV RX7 55 RX7 yX7_allWorkers wsX7_allWorkers) := goodIn_app (goodIn_of _ (by decide +kernel)) ggX7_plans_X7_allWorkers
set_option maxRecDepth 20000 in
theorem ggX7_plans_X7_allTasks : GoodIn wsX7_plans wsX7_allTasks := goodIn_r _ [15, 1, 33, 34, 35, 36, 37, 38, 39, 40, 41, 42, 43, 44, 45, 46, 47, 48, 49, 50] (by decide +kernel) (by decide +kernel)
set_option maxRecDepth 20000 in
theorem gX7_plans_X7_allTasks : GoodIn wsX7_plans (wsV RX7 59 RX7 yX7_allTasks wsX7_allTasks) := goodIn_app (goodIn_of _ (by decide +kernel)) ggX7_plans_X7_allTasks
set_option maxRecDepth 20000 in
theorem ggX7_plans_X7_of : GoodIn wsX7_plans wsX7_of := goodIn_r _ [32, 1, 33, 34, 35, 36, 37, 38, 39, 40, 41, 42, 43, 44, 45, 46, 47, 48, 49, 50] (by decide +kernel) (by decide +kernel)
set_option maxRecDepth 20000 in
theorem gX7_plans_X7_of : GoodIn wsX7_plans (wsV RX7 47 RX7 yX7_of wsX7_of) := goodIn_app (goodIn_of _ (by decide +kernel)) ggX7_plans_X7_of
set_option maxRecDepth 20000 in
theorem ggX7_plans_X7_leastFor : GoodIn wsX7_plans wsX7_leastFor := goodIn_r _ [19, 20, 21, 1, 22, 23, 24, 6, 25, 26, 27, 28, 29, 30, 31, 32, 33, 34, 35, 36, 37, 38, 39, 40, 41, 42, 43, 44, 45, 46, 47, 48, 49, 50] (by decide +kernel) (by decide +kernel)
set_option maxRecDepth 20000 in
theorem gX7_plans_X7_leastFor : GoodIn wsX7_plans (wsV RX7 62 RX7 yX7_leastFor wsX7_leastFor) := goodIn_app (goodIn_of _ (by decide +kernel)) ggX7_plans_X7_leastFor
theorem dX7_plans_0 : decode cX7_plans 0 = .ok (.aload_n 0, 1) := by decide +kernel
theorem dX7_plans_1 : decode cX7_plans 1 = .ok (.invokevirtual 65, 3) := by decide +kernel
theorem dX7_plans_4 : decode cX7_plans 4 = .ok (.istore_n 1, 1) := by decide +kernel
theorem dX7_plans_5 : decode cX7_plans 5 = .ok (.aload_n 0, 1) := by decide +kernel
theorem dX7_plans_6 : decode cX7_plans 6 = .ok (.invokevirtual 55, 3) := by decide +kernel
theorem dX7_plans_9 : decode cX7_plans 9 = .ok (.istore_n 2, 1) := by decide +kernel
theorem dX7_plans_10 : decode cX7_plans 10 = .ok (.aload_n 0, 1) := by decide +kernel
theorem dX7_plans_11 : decode cX7_plans 11 = .ok (.invokevirtual 59, 3) := by decide +kernel
theorem dX7_plans_14 : decode cX7_plans 14 = .ok (.istore_n 3, 1) := by decide +kernel
theorem dX7_plans_15 : decode cX7_plans 15 = .ok (.iconst 0, 1) := by decide +kernel
theorem dX7_plans_16 : decode cX7_plans 16 = .ok (.istore 4, 2) := by decide +kernel
theorem dX7_plans_18 : decode cX7_plans 18 = .ok (.iload 4, 2) := by decide +kernel
theorem dX7_plans_20 : decode cX7_plans 20 = .ok (.aload_n 0, 1) := by decide +kernel
theorem dX7_plans_21 : decode cX7_plans 21 = .ok (.getfield 7, 3) := by decide +kernel
theorem dX7_plans_24 : decode cX7_plans 24 = .ok (.iconst 0, 1) := by decide +kernel
theorem dX7_plans_25 : decode cX7_plans 25 = .ok (.iaload, 1) := by decide +kernel
theorem dX7_plans_26 : decode cX7_plans 26 = .ok (.if_icmp .ge 150, 3) := by decide +kernel
theorem dX7_plans_29 : decode cX7_plans 29 = .ok (.iload_n 2, 1) := by decide +kernel
theorem dX7_plans_30 : decode cX7_plans 30 = .ok (.iconst 1, 1) := by decide +kernel
theorem dX7_plans_31 : decode cX7_plans 31 = .ok (.iload 4, 2) := by decide +kernel
theorem dX7_plans_33 : decode cX7_plans 33 = .ok (.ishl, 1) := by decide +kernel
theorem dX7_plans_34 : decode cX7_plans 34 = .ok (.isub, 1) := by decide +kernel
theorem dX7_plans_35 : decode cX7_plans 35 = .ok (.istore_n 2, 1) := by decide +kernel
theorem dX7_plans_36 : decode cX7_plans 36 = .ok (.bipush (-4), 2) := by decide +kernel
theorem dX7_plans_38 : decode cX7_plans 38 = .ok (.istore 5, 2) := by decide +kernel
theorem dX7_plans_40 : decode cX7_plans 40 = .ok (.aload_n 0, 1) := by decide +kernel
theorem dX7_plans_41 : decode cX7_plans 41 = .ok (.getfield 7, 3) := by decide +kernel
theorem dX7_plans_44 : decode cX7_plans 44 = .ok (.iconst 1, 1) := by decide +kernel
theorem dX7_plans_45 : decode cX7_plans 45 = .ok (.iaload, 1) := by decide +kernel
theorem dX7_plans_46 : decode cX7_plans 46 = .ok (.iconst 1, 1) := by decide +kernel
theorem dX7_plans_47 : decode cX7_plans 47 = .ok (.isub, 1) := by decide +kernel
theorem dX7_plans_48 : decode cX7_plans 48 = .ok (.istore 6, 2) := by decide +kernel
theorem dX7_plans_50 : decode cX7_plans 50 = .ok (.iload 6, 2) := by decide +kernel
theorem dX7_plans_52 : decode cX7_plans 52 = .ok (.ifCond .lt 65, 3) := by decide +kernel
theorem dX7_plans_55 : decode cX7_plans 55 = .ok (.iload_n 3, 1) := by decide +kernel
theorem dX7_plans_56 : decode cX7_plans 56 = .ok (.iload 6, 2) := by decide +kernel
theorem dX7_plans_58 : decode cX7_plans 58 = .ok (.ishr, 1) := by decide +kernel
theorem dX7_plans_59 : decode cX7_plans 59 = .ok (.iconst 1, 1) := by decide +kernel
theorem dX7_plans_60 : decode cX7_plans 60 = .ok (.iand, 1) := by decide +kernel
theorem dX7_plans_61 : decode cX7_plans 61 = .ok (.iconst 1, 1) := by decide +kernel
theorem dX7_plans_62 : decode cX7_plans 62 = .ok (.if_icmp .ne 14, 3) := by decide +kernel
theorem dX7_plans_65 : decode cX7_plans 65 = .ok (.aload_n 0, 1) := by decide +kernel
theorem dX7_plans_66 : decode cX7_plans 66 = .ok (.iload 4, 2) := by decide +kernel
theorem dX7_plans_68 : decode cX7_plans 68 = .ok (.iload 6, 2) := by decide +kernel
theorem dX7_plans_70 : decode cX7_plans 70 = .ok (.invokevirtual 47, 3) := by decide +kernel
theorem dX7_plans_73 : decode cX7_plans 73 = .ok (.goto 4, 3) := by decide +kernel
theorem dX7_plans_76 : decode cX7_plans 76 = .ok (.iconst (-1), 1) := by decide +kernel
theorem dX7_plans_77 : decode cX7_plans 77 = .ok (.istore 7, 2) := by decide +kernel
theorem dX7_plans_79 : decode cX7_plans 79 = .ok (.iload 7, 2) := by decide +kernel
theorem dX7_plans_81 : decode cX7_plans 81 = .ok (.ifCond .lt 26, 3) := by decide +kernel
theorem dX7_plans_84 : decode cX7_plans 84 = .ok (.iload 7, 2) := by decide +kernel
theorem dX7_plans_86 : decode cX7_plans 86 = .ok (.aload_n 0, 1) := by decide +kernel
theorem dX7_plans_87 : decode cX7_plans 87 = .ok (.iload_n 2, 1) := by decide +kernel
theorem dX7_plans_88 : decode cX7_plans 88 = .ok (.iload_n 3, 1) := by decide +kernel
theorem dX7_plans_89 : decode cX7_plans 89 = .ok (.iconst 1, 1) := by decide +kernel
theorem dX7_plans_90 : decode cX7_plans 90 = .ok (.iload 6, 2) := by decide +kernel
theorem dX7_plans_92 : decode cX7_plans 92 = .ok (.ishl, 1) := by decide +kernel
theorem dX7_plans_93 : decode cX7_plans 93 = .ok (.isub, 1) := by decide +kernel
theorem dX7_plans_94 : decode cX7_plans 94 = .ok (.invokevirtual 62, 3) := by decide +kernel
theorem dX7_plans_97 : decode cX7_plans 97 = .ok (.iadd, 1) := by decide +kernel
theorem dX7_plans_98 : decode cX7_plans 98 = .ok (.iload_n 1, 1) := by decide +kernel
theorem dX7_plans_99 : decode cX7_plans 99 = .ok (.if_icmp .ne 8, 3) := by decide +kernel
theorem dX7_plans_102 : decode cX7_plans 102 = .ok (.iload 6, 2) := by decide +kernel
theorem dX7_plans_104 : decode cX7_plans 104 = .ok (.goto 5, 3) := by decide +kernel
theorem dX7_plans_107 : decode cX7_plans 107 = .ok (.iload 5, 2) := by decide +kernel
theorem dX7_plans_109 : decode cX7_plans 109 = .ok (.istore 5, 2) := by decide +kernel
theorem dX7_plans_111 : decode cX7_plans 111 = .ok (.iinc 6 (-1), 3) := by decide +kernel
theorem dX7_plans_114 : decode cX7_plans 114 = .ok (.goto (-64), 3) := by decide +kernel
theorem dX7_plans_117 : decode cX7_plans 117 = .ok (.aload_n 0, 1) := by decide +kernel
theorem dX7_plans_118 : decode cX7_plans 118 = .ok (.getfield 32, 3) := by decide +kernel
theorem dX7_plans_121 : decode cX7_plans 121 = .ok (.iload 4, 2) := by decide +kernel
theorem dX7_plans_123 : decode cX7_plans 123 = .ok (.iload 5, 2) := by decide +kernel
theorem dX7_plans_125 : decode cX7_plans 125 = .ok (.iastore, 1) := by decide +kernel
theorem dX7_plans_126 : decode cX7_plans 126 = .ok (.iload_n 1, 1) := by decide +kernel
theorem dX7_plans_127 : decode cX7_plans 127 = .ok (.iload 5, 2) := by decide +kernel
theorem dX7_plans_129 : decode cX7_plans 129 = .ok (.ifCond .ge 15, 3) := by decide +kernel
theorem dX7_plans_132 : decode cX7_plans 132 = .ok (.aload_n 0, 1) := by decide +kernel
theorem dX7_plans_133 : decode cX7_plans 133 = .ok (.getfield 7, 3) := by decide +kernel
theorem dX7_plans_136 : decode cX7_plans 136 = .ok (.iconst 2, 1) := by decide +kernel
theorem dX7_plans_137 : decode cX7_plans 137 = .ok (.iload 4, 2) := by decide +kernel
theorem dX7_plans_139 : decode cX7_plans 139 = .ok (.iadd, 1) := by decide +kernel
theorem dX7_plans_140 : decode cX7_plans 140 = .ok (.iaload, 1) := by decide +kernel
theorem dX7_plans_141 : decode cX7_plans 141 = .ok (.goto 11, 3) := by decide +kernel
theorem dX7_plans_144 : decode cX7_plans 144 = .ok (.aload_n 0, 1) := by decide +kernel
theorem dX7_plans_145 : decode cX7_plans 145 = .ok (.iload 4, 2) := by decide +kernel
theorem dX7_plans_147 : decode cX7_plans 147 = .ok (.iload 5, 2) := by decide +kernel
theorem dX7_plans_149 : decode cX7_plans 149 = .ok (.invokevirtual 47, 3) := by decide +kernel
theorem dX7_plans_152 : decode cX7_plans 152 = .ok (.isub, 1) := by decide +kernel
theorem dX7_plans_153 : decode cX7_plans 153 = .ok (.istore_n 1, 1) := by decide +kernel
theorem dX7_plans_154 : decode cX7_plans 154 = .ok (.iload_n 3, 1) := by decide +kernel
theorem dX7_plans_155 : decode cX7_plans 155 = .ok (.iload 5, 2) := by decide +kernel
theorem dX7_plans_157 : decode cX7_plans 157 = .ok (.ifCond .ge 7, 3) := by decide +kernel
theorem dX7_plans_160 : decode cX7_plans 160 = .ok (.iconst 0, 1) := by decide +kernel
theorem dX7_plans_161 : decode cX7_plans 161 = .ok (.goto 7, 3) := by decide +kernel
theorem dX7_plans_164 : decode cX7_plans 164 = .ok (.iconst 1, 1) := by decide +kernel
theorem dX7_plans_165 : decode cX7_plans 165 = .ok (.iload 5, 2) := by decide +kernel
theorem dX7_plans_167 : decode cX7_plans 167 = .ok (.ishl, 1) := by decide +kernel
theorem dX7_plans_168 : decode cX7_plans 168 = .ok (.isub, 1) := by decide +kernel
theorem dX7_plans_169 : decode cX7_plans 169 = .ok (.istore_n 3, 1) := by decide +kernel
theorem dX7_plans_170 : decode cX7_plans 170 = .ok (.iinc 4 1, 3) := by decide +kernel
theorem dX7_plans_173 : decode cX7_plans 173 = .ok (.goto (-155), 3) := by decide +kernel
theorem dX7_plans_176 : decode cX7_plans 176 = .ok (.return_, 1) := by decide +kernel
set_option maxRecDepth 20000 in
theorem ggX7_taskOf_X7_isWorker : GoodIn wsX7_taskOf wsX7_isWorker := goodIn_r _ [6, 7, 41, 42, 43, 44, 45, 46, 47, 48, 49, 50, 51, 52, 53, 54, 55, 56, 57, 58] (by decide +kernel) (by decide +kernel)
set_option maxRecDepth 20000 in
theorem gX7_taskOf_X7_isWorker : GoodIn wsX7_taskOf (wsV RX7 75 RX7 yX7_isWorker wsX7_isWorker) := goodIn_app (goodIn_of _ (by decide +kernel)) ggX7_taskOf_X7_isWorker
set_option maxRecDepth 20000 in
theorem ggX7_taskOf_X7_plans : GoodIn wsX7_taskOf wsX7_plans := goodIn_r _ [11, 7, 1, 12, 13, 14, 5, 15, 16, 17, 18, 19, 20, 21, 22, 23, 24, 25, 26, 27, 28, 29, 30, 31, 32, 33, 34, 35, 36, 37, 38, 39, 40, 41, 42, 43, 44, 45, 46, 47, 48, 49, 50, 51, 52, 53, 54, 55, 56, 57, 58] (by decide +kernel) (by decide +kernel)
set_option maxRecDepth 20000 in
theorem gX7_taskOf_X7_plans : GoodIn wsX7_taskOf (wsV RX7 90 RX7 yX7_plans wsX7_plans) := goodIn_app (goodIn_of _ (by decide +kernel)) ggX7_taskOf_X7_plans
theorem dX7_taskOf_0 : decode cX7_taskOf 0 = .ok (.aload_n 0, 1) := by decide +kernel
theorem dX7_taskOf_1 : decode cX7_taskOf 1 = .ok (.iload_n 1, 1) := by decide +kernel
theorem dX7_taskOf_2 : decode cX7_taskOf 2 = .ok (.invokevirtual 75, 3) := by decide +kernel
theorem dX7_taskOf_5 : decode cX7_taskOf 5 = .ok (.ifCond .ne 5, 3) := by decide +kernel
theorem dX7_taskOf_8 : decode cX7_taskOf 8 = .ok (.iconst (-1), 1) := by decide +kernel
theorem dX7_taskOf_9 : decode cX7_taskOf 9 = .ok (.ireturn, 1) := by decide +kernel
theorem dX7_taskOf_10 : decode cX7_taskOf 10 = .ok (.aload_n 0, 1) := by decide +kernel
theorem dX7_taskOf_11 : decode cX7_taskOf 11 = .ok (.invokevirtual 90, 3) := by decide +kernel
theorem dX7_taskOf_14 : decode cX7_taskOf 14 = .ok (.aload_n 0, 1) := by decide +kernel
theorem dX7_taskOf_15 : decode cX7_taskOf 15 = .ok (.getfield 32, 3) := by decide +kernel
theorem dX7_taskOf_18 : decode cX7_taskOf 18 = .ok (.iload_n 1, 1) := by decide +kernel
theorem dX7_taskOf_19 : decode cX7_taskOf 19 = .ok (.iaload, 1) := by decide +kernel
theorem dX7_taskOf_20 : decode cX7_taskOf 20 = .ok (.ireturn, 1) := by decide +kernel
set_option maxRecDepth 20000 in
theorem ggX7_workerOf_X7_isTask : GoodIn wsX7_workerOf wsX7_isTask := goodIn_r _ [7, 1, 41, 42, 43, 44, 45, 46, 47, 48, 49, 50, 51, 52, 53, 54, 55, 56, 57, 58] (by decide +kernel) (by decide +kernel)
set_option maxRecDepth 20000 in
theorem gX7_workerOf_X7_isTask : GoodIn wsX7_workerOf (wsV RX7 79 RX7 yX7_isTask wsX7_isTask) := goodIn_app (goodIn_of _ (by decide +kernel)) ggX7_workerOf_X7_isTask
set_option maxRecDepth 20000 in
theorem ggX7_workerOf_X7_plans : GoodIn wsX7_workerOf wsX7_plans := goodIn_r _ [11, 1, 2, 12, 13, 14, 6, 15, 16, 17, 18, 19, 20, 21, 22, 23, 24, 25, 26, 27, 28, 29, 30, 31, 32, 33, 34, 35, 36, 37, 38, 39, 40, 41, 42, 43, 44, 45, 46, 47, 48, 49, 50, 51, 52, 53, 54, 55, 56, 57, 58] (by decide +kernel) (by decide +kernel)
set_option maxRecDepth 20000 in
theorem gX7_workerOf_X7_plans : GoodIn wsX7_workerOf (wsV RX7 90 RX7 yX7_plans wsX7_plans) := goodIn_app (goodIn_of _ (by decide +kernel)) ggX7_workerOf_X7_plans
theorem dX7_workerOf_0 : decode cX7_workerOf 0 = .ok (.aload_n 0, 1) := by decide +kernel
theorem dX7_workerOf_1 : decode cX7_workerOf 1 = .ok (.iload_n 1, 1) := by decide +kernel
theorem dX7_workerOf_2 : decode cX7_workerOf 2 = .ok (.invokevirtual 79, 3) := by decide +kernel
theorem dX7_workerOf_5 : decode cX7_workerOf 5 = .ok (.ifCond .ne 5, 3) := by decide +kernel
theorem dX7_workerOf_8 : decode cX7_workerOf 8 = .ok (.iconst (-1), 1) := by decide +kernel
theorem dX7_workerOf_9 : decode cX7_workerOf 9 = .ok (.ireturn, 1) := by decide +kernel
theorem dX7_workerOf_10 : decode cX7_workerOf 10 = .ok (.aload_n 0, 1) := by decide +kernel
theorem dX7_workerOf_11 : decode cX7_workerOf 11 = .ok (.invokevirtual 90, 3) := by decide +kernel
theorem dX7_workerOf_14 : decode cX7_workerOf 14 = .ok (.bipush (-4), 2) := by decide +kernel
theorem dX7_workerOf_16 : decode cX7_workerOf 16 = .ok (.istore_n 2, 1) := by decide +kernel
theorem dX7_workerOf_17 : decode cX7_workerOf 17 = .ok (.iconst 0, 1) := by decide +kernel
theorem dX7_workerOf_18 : decode cX7_workerOf 18 = .ok (.istore_n 3, 1) := by decide +kernel
theorem dX7_workerOf_19 : decode cX7_workerOf 19 = .ok (.iload_n 3, 1) := by decide +kernel
theorem dX7_workerOf_20 : decode cX7_workerOf 20 = .ok (.aload_n 0, 1) := by decide +kernel
theorem dX7_workerOf_21 : decode cX7_workerOf 21 = .ok (.getfield 7, 3) := by decide +kernel
theorem dX7_workerOf_24 : decode cX7_workerOf 24 = .ok (.iconst 0, 1) := by decide +kernel
theorem dX7_workerOf_25 : decode cX7_workerOf 25 = .ok (.iaload, 1) := by decide +kernel
theorem dX7_workerOf_26 : decode cX7_workerOf 26 = .ok (.if_icmp .ge 25, 3) := by decide +kernel
theorem dX7_workerOf_29 : decode cX7_workerOf 29 = .ok (.aload_n 0, 1) := by decide +kernel
theorem dX7_workerOf_30 : decode cX7_workerOf 30 = .ok (.getfield 32, 3) := by decide +kernel
theorem dX7_workerOf_33 : decode cX7_workerOf 33 = .ok (.iload_n 3, 1) := by decide +kernel
theorem dX7_workerOf_34 : decode cX7_workerOf 34 = .ok (.iaload, 1) := by decide +kernel
theorem dX7_workerOf_35 : decode cX7_workerOf 35 = .ok (.iload_n 1, 1) := by decide +kernel
theorem dX7_workerOf_36 : decode cX7_workerOf 36 = .ok (.if_icmp .ne 7, 3) := by decide +kernel
theorem dX7_workerOf_39 : decode cX7_workerOf 39 = .ok (.iload_n 3, 1) := by decide +kernel
theorem dX7_workerOf_40 : decode cX7_workerOf 40 = .ok (.goto 4, 3) := by decide +kernel
theorem dX7_workerOf_43 : decode cX7_workerOf 43 = .ok (.iload_n 2, 1) := by decide +kernel
theorem dX7_workerOf_44 : decode cX7_workerOf 44 = .ok (.istore_n 2, 1) := by decide +kernel
theorem dX7_workerOf_45 : decode cX7_workerOf 45 = .ok (.iinc 3 1, 3) := by decide +kernel
theorem dX7_workerOf_48 : decode cX7_workerOf 48 = .ok (.goto (-29), 3) := by decide +kernel
theorem dX7_workerOf_51 : decode cX7_workerOf 51 = .ok (.iload_n 2, 1) := by decide +kernel
theorem dX7_workerOf_52 : decode cX7_workerOf 52 = .ok (.ireturn, 1) := by decide +kernel
set_option maxRecDepth 20000 in
theorem ggX7_totalFor_X7_allWorkers : GoodIn wsX7_totalFor wsX7_allWorkers := goodIn_r _ [5, 6, 31, 32, 33, 34, 35, 36, 37, 38, 39, 40, 41, 42, 43, 44, 45, 46, 47, 48] (by decide +kernel) (by decide +kernel)
set_option maxRecDepth 20000 in
theorem gX7_totalFor_X7_allWorkers : GoodIn wsX7_totalFor (wsV RX7 55 RX7 yX7_allWorkers wsX7_allWorkers) := goodIn_app (goodIn_of _ (by decide +kernel)) ggX7_totalFor_X7_allWorkers
set_option maxRecDepth 20000 in
theorem ggX7_totalFor_X7_in : GoodIn wsX7_totalFor wsX7_in := goodIn_r _ [9] (by decide +kernel) (by decide +kernel)
set_option maxRecDepth 20000 in
theorem gX7_totalFor_X7_in : GoodIn wsX7_totalFor (va_wsS RX7 68 yX7_in wsX7_in) := goodIn_app (goodIn_of _ (by decide +kernel)) ggX7_totalFor_X7_in
set_option maxRecDepth 20000 in
theorem ggX7_totalFor_X7_allTasks : GoodIn wsX7_totalFor wsX7_allTasks := goodIn_r _ [13, 6, 31, 32, 33, 34, 35, 36, 37, 38, 39, 40, 41, 42, 43, 44, 45, 46, 47, 48] (by decide +kernel) (by decide +kernel)
set_option maxRecDepth 20000 in
theorem gX7_totalFor_X7_allTasks : GoodIn wsX7_totalFor (wsV RX7 59 RX7 yX7_allTasks wsX7_allTasks) := goodIn_app (goodIn_of _ (by decide +kernel)) ggX7_totalFor_X7_allTasks
set_option maxRecDepth 20000 in
theorem ggX7_totalFor_X7_leastFor : GoodIn wsX7_totalFor wsX7_leastFor := goodIn_r _ [17, 18, 19, 6, 20, 21, 22, 4, 23, 24, 25, 26, 27, 28, 29, 30, 31, 32, 33, 34, 35, 36, 37, 38, 39, 40, 41, 42, 43, 44, 45, 46, 47, 48] (by decide +kernel) (by decide +kernel)
set_option maxRecDepth 20000 in
theorem gX7_totalFor_X7_leastFor : GoodIn wsX7_totalFor (wsV RX7 62 RX7 yX7_leastFor wsX7_leastFor) := goodIn_app (goodIn_of _ (by decide +kernel)) ggX7_totalFor_X7_leastFor
theorem dX7_totalFor_0 : decode cX7_totalFor 0 = .ok (.iload_n 1, 1) := by decide +kernel
theorem dX7_totalFor_1 : decode cX7_totalFor 1 = .ok (.iconst 0, 1) := by decide +kernel
theorem dX7_totalFor_2 : decode cX7_totalFor 2 = .ok (.aload_n 0, 1) := by decide +kernel
theorem dX7_totalFor_3 : decode cX7_totalFor 3 = .ok (.invokevirtual 55, 3) := by decide +kernel
theorem dX7_totalFor_6 : decode cX7_totalFor 6 = .ok (.invokestatic 68, 3) := by decide +kernel
theorem dX7_totalFor_9 : decode cX7_totalFor 9 = .ok (.ifCond .eq 15, 3) := by decide +kernel
theorem dX7_totalFor_12 : decode cX7_totalFor 12 = .ok (.aload_n 0, 1) := by decide +kernel
theorem dX7_totalFor_13 : decode cX7_totalFor 13 = .ok (.iload_n 1, 1) := by decide +kernel
theorem dX7_totalFor_14 : decode cX7_totalFor 14 = .ok (.aload_n 0, 1) := by decide +kernel
theorem dX7_totalFor_15 : decode cX7_totalFor 15 = .ok (.invokevirtual 59, 3) := by decide +kernel
theorem dX7_totalFor_18 : decode cX7_totalFor 18 = .ok (.invokevirtual 62, 3) := by decide +kernel
theorem dX7_totalFor_21 : decode cX7_totalFor 21 = .ok (.goto 4, 3) := by decide +kernel
theorem dX7_totalFor_24 : decode cX7_totalFor 24 = .ok (.iconst (-1), 1) := by decide +kernel
theorem dX7_totalFor_25 : decode cX7_totalFor 25 = .ok (.ireturn, 1) := by decide +kernel
set_option maxRecDepth 20000 in
theorem ggX7_price_X7_isTask : GoodIn wsX7_price wsX7_isTask := goodIn_r _ [5, 6, 47, 48, 49, 50, 51, 52, 53, 54, 55, 56, 57, 58, 59, 60, 61, 62, 63, 64] (by decide +kernel) (by decide +kernel)
set_option maxRecDepth 20000 in
theorem gX7_price_X7_isTask : GoodIn wsX7_price (wsV RX7 79 RX7 yX7_isTask wsX7_isTask) := goodIn_app (goodIn_of _ (by decide +kernel)) ggX7_price_X7_isTask
set_option maxRecDepth 20000 in
theorem ggX7_price_X7_in : GoodIn wsX7_price wsX7_in := goodIn_r _ [9] (by decide +kernel) (by decide +kernel)
set_option maxRecDepth 20000 in
theorem gX7_price_X7_in : GoodIn wsX7_price (va_wsS RX7 68 yX7_in wsX7_in) := goodIn_app (goodIn_of _ (by decide +kernel)) ggX7_price_X7_in
set_option maxRecDepth 20000 in
theorem ggX7_price_X7_leastPrice : GoodIn wsX7_price wsX7_leastPrice := goodIn_r _ [13, 14, 15, 16, 17, 4, 18, 6, 19, 20, 21, 22, 23, 24, 25, 26, 27, 28, 29, 30, 31, 32, 33, 34, 35, 36, 37, 38, 39, 40, 41, 42, 47, 48, 49, 50, 51, 52, 53, 54, 55, 56, 57, 58, 59, 60, 61, 62, 63, 64] (by decide +kernel) (by decide +kernel)
set_option maxRecDepth 20000 in
theorem gX7_price_X7_leastPrice : GoodIn wsX7_price (wsV RX7 93 RX7 yX7_leastPrice wsX7_leastPrice) := goodIn_app (goodIn_of _ (by decide +kernel)) ggX7_price_X7_leastPrice
set_option maxRecDepth 20000 in
theorem ggX7_price_X7_greatestPrice : GoodIn wsX7_price wsX7_greatestPrice := goodIn_r _ [46, 15, 16, 17, 4, 18, 6, 19, 20, 21, 22, 23, 24, 25, 26, 27, 28, 29, 30, 31, 32, 33, 34, 14, 35, 36, 37, 38, 39, 40, 41, 42, 47, 48, 49, 50, 51, 52, 53, 54, 55, 56, 57, 58, 59, 60, 61, 62, 63, 64] (by decide +kernel) (by decide +kernel)
set_option maxRecDepth 20000 in
theorem gX7_price_X7_greatestPrice : GoodIn wsX7_price (wsV RX7 96 RX7 yX7_greatestPrice wsX7_greatestPrice) := goodIn_app (goodIn_of _ (by decide +kernel)) ggX7_price_X7_greatestPrice
theorem dX7_price_0 : decode cX7_price 0 = .ok (.aload_n 0, 1) := by decide +kernel
theorem dX7_price_1 : decode cX7_price 1 = .ok (.iload_n 1, 1) := by decide +kernel
theorem dX7_price_2 : decode cX7_price 2 = .ok (.invokevirtual 79, 3) := by decide +kernel
theorem dX7_price_5 : decode cX7_price 5 = .ok (.ifCond .eq 12, 3) := by decide +kernel
theorem dX7_price_8 : decode cX7_price 8 = .ok (.iload_n 2, 1) := by decide +kernel
theorem dX7_price_9 : decode cX7_price 9 = .ok (.iconst 0, 1) := by decide +kernel
theorem dX7_price_10 : decode cX7_price 10 = .ok (.iconst 1, 1) := by decide +kernel
theorem dX7_price_11 : decode cX7_price 11 = .ok (.invokestatic 68, 3) := by decide +kernel
theorem dX7_price_14 : decode cX7_price 14 = .ok (.ifCond .ne 5, 3) := by decide +kernel
theorem dX7_price_17 : decode cX7_price 17 = .ok (.iconst (-1), 1) := by decide +kernel
theorem dX7_price_18 : decode cX7_price 18 = .ok (.ireturn, 1) := by decide +kernel
theorem dX7_price_19 : decode cX7_price 19 = .ok (.iload_n 2, 1) := by decide +kernel
theorem dX7_price_20 : decode cX7_price 20 = .ok (.ifCond .ne 11, 3) := by decide +kernel
theorem dX7_price_23 : decode cX7_price 23 = .ok (.aload_n 0, 1) := by decide +kernel
theorem dX7_price_24 : decode cX7_price 24 = .ok (.iload_n 1, 1) := by decide +kernel
theorem dX7_price_25 : decode cX7_price 25 = .ok (.invokevirtual 93, 3) := by decide +kernel
theorem dX7_price_28 : decode cX7_price 28 = .ok (.goto 8, 3) := by decide +kernel
theorem dX7_price_31 : decode cX7_price 31 = .ok (.aload_n 0, 1) := by decide +kernel
theorem dX7_price_32 : decode cX7_price 32 = .ok (.iload_n 1, 1) := by decide +kernel
theorem dX7_price_33 : decode cX7_price 33 = .ok (.invokevirtual 96, 3) := by decide +kernel
theorem dX7_price_36 : decode cX7_price 36 = .ok (.ireturn, 1) := by decide +kernel
set_option maxRecDepth 20000 in
theorem ggX7_pricesAll_X7_leastPrice : GoodIn wsX7_pricesAll wsX7_leastPrice := goodIn_r _ [7, 8, 9, 10, 11, 6, 12, 1, 13, 14, 15, 16, 17, 18, 19, 20, 21, 22, 23, 24, 25, 26, 27, 28, 29, 30, 31, 32, 33, 34, 35, 36, 37, 38, 39, 40, 41, 42, 43, 44, 45, 46, 47, 48, 49, 50, 51, 52, 53, 54] (by decide +kernel) (by decide +kernel)
set_option maxRecDepth 20000 in
theorem gX7_pricesAll_X7_leastPrice : GoodIn wsX7_pricesAll (wsV RX7 93 RX7 yX7_leastPrice wsX7_leastPrice) := goodIn_app (goodIn_of _ (by decide +kernel)) ggX7_pricesAll_X7_leastPrice
theorem dX7_pricesAll_0 : decode cX7_pricesAll 0 = .ok (.iconst 0, 1) := by decide +kernel
theorem dX7_pricesAll_1 : decode cX7_pricesAll 1 = .ok (.istore_n 1, 1) := by decide +kernel
theorem dX7_pricesAll_2 : decode cX7_pricesAll 2 = .ok (.iconst 0, 1) := by decide +kernel
theorem dX7_pricesAll_3 : decode cX7_pricesAll 3 = .ok (.istore_n 2, 1) := by decide +kernel
theorem dX7_pricesAll_4 : decode cX7_pricesAll 4 = .ok (.iload_n 2, 1) := by decide +kernel
theorem dX7_pricesAll_5 : decode cX7_pricesAll 5 = .ok (.aload_n 0, 1) := by decide +kernel
theorem dX7_pricesAll_6 : decode cX7_pricesAll 6 = .ok (.getfield 7, 3) := by decide +kernel
theorem dX7_pricesAll_9 : decode cX7_pricesAll 9 = .ok (.iconst 1, 1) := by decide +kernel
theorem dX7_pricesAll_10 : decode cX7_pricesAll 10 = .ok (.iaload, 1) := by decide +kernel
theorem dX7_pricesAll_11 : decode cX7_pricesAll 11 = .ok (.if_icmp .ge 29, 3) := by decide +kernel
theorem dX7_pricesAll_14 : decode cX7_pricesAll 14 = .ok (.aload_n 0, 1) := by decide +kernel
theorem dX7_pricesAll_15 : decode cX7_pricesAll 15 = .ok (.getfield 35, 3) := by decide +kernel
theorem dX7_pricesAll_18 : decode cX7_pricesAll 18 = .ok (.iload_n 2, 1) := by decide +kernel
theorem dX7_pricesAll_19 : decode cX7_pricesAll 19 = .ok (.aload_n 0, 1) := by decide +kernel
theorem dX7_pricesAll_20 : decode cX7_pricesAll 20 = .ok (.iload_n 2, 1) := by decide +kernel
theorem dX7_pricesAll_21 : decode cX7_pricesAll 21 = .ok (.invokevirtual 93, 3) := by decide +kernel
theorem dX7_pricesAll_24 : decode cX7_pricesAll 24 = .ok (.iastore, 1) := by decide +kernel
theorem dX7_pricesAll_25 : decode cX7_pricesAll 25 = .ok (.iload_n 1, 1) := by decide +kernel
theorem dX7_pricesAll_26 : decode cX7_pricesAll 26 = .ok (.aload_n 0, 1) := by decide +kernel
theorem dX7_pricesAll_27 : decode cX7_pricesAll 27 = .ok (.getfield 35, 3) := by decide +kernel
theorem dX7_pricesAll_30 : decode cX7_pricesAll 30 = .ok (.iload_n 2, 1) := by decide +kernel
theorem dX7_pricesAll_31 : decode cX7_pricesAll 31 = .ok (.iaload, 1) := by decide +kernel
theorem dX7_pricesAll_32 : decode cX7_pricesAll 32 = .ok (.iadd, 1) := by decide +kernel
theorem dX7_pricesAll_33 : decode cX7_pricesAll 33 = .ok (.istore_n 1, 1) := by decide +kernel
theorem dX7_pricesAll_34 : decode cX7_pricesAll 34 = .ok (.iinc 2 1, 3) := by decide +kernel
theorem dX7_pricesAll_37 : decode cX7_pricesAll 37 = .ok (.goto (-33), 3) := by decide +kernel
theorem dX7_pricesAll_40 : decode cX7_pricesAll 40 = .ok (.iload_n 1, 1) := by decide +kernel
theorem dX7_pricesAll_41 : decode cX7_pricesAll 41 = .ok (.ireturn, 1) := by decide +kernel
set_option maxRecDepth 20000 in
theorem ggX7_worth_X7_of : GoodIn wsX7_worth wsX7_of := goodIn_r _ [7, 1, 8, 9, 10, 11, 12, 13, 14, 15, 16, 17, 18, 19, 20, 21, 22, 23, 24, 25] (by decide +kernel) (by decide +kernel)
set_option maxRecDepth 20000 in
theorem gX7_worth_X7_of : GoodIn wsX7_worth (wsV RX7 47 RX7 yX7_of wsX7_of) := goodIn_app (goodIn_of _ (by decide +kernel)) ggX7_worth_X7_of
theorem dX7_worth_0 : decode cX7_worth 0 = .ok (.aload_n 0, 1) := by decide +kernel
theorem dX7_worth_1 : decode cX7_worth 1 = .ok (.getfield 7, 3) := by decide +kernel
theorem dX7_worth_4 : decode cX7_worth 4 = .ok (.iconst 2, 1) := by decide +kernel
theorem dX7_worth_5 : decode cX7_worth 5 = .ok (.iload_n 1, 1) := by decide +kernel
theorem dX7_worth_6 : decode cX7_worth 6 = .ok (.iadd, 1) := by decide +kernel
theorem dX7_worth_7 : decode cX7_worth 7 = .ok (.iaload, 1) := by decide +kernel
theorem dX7_worth_8 : decode cX7_worth 8 = .ok (.istore_n 2, 1) := by decide +kernel
theorem dX7_worth_9 : decode cX7_worth 9 = .ok (.iconst 0, 1) := by decide +kernel
theorem dX7_worth_10 : decode cX7_worth 10 = .ok (.istore_n 3, 1) := by decide +kernel
theorem dX7_worth_11 : decode cX7_worth 11 = .ok (.iload_n 3, 1) := by decide +kernel
theorem dX7_worth_12 : decode cX7_worth 12 = .ok (.aload_n 0, 1) := by decide +kernel
theorem dX7_worth_13 : decode cX7_worth 13 = .ok (.getfield 7, 3) := by decide +kernel
theorem dX7_worth_16 : decode cX7_worth 16 = .ok (.iconst 1, 1) := by decide +kernel
theorem dX7_worth_17 : decode cX7_worth 17 = .ok (.iaload, 1) := by decide +kernel
theorem dX7_worth_18 : decode cX7_worth 18 = .ok (.if_icmp .ge 53, 3) := by decide +kernel
theorem dX7_worth_21 : decode cX7_worth 21 = .ok (.aload_n 0, 1) := by decide +kernel
theorem dX7_worth_22 : decode cX7_worth 22 = .ok (.iload_n 1, 1) := by decide +kernel
theorem dX7_worth_23 : decode cX7_worth 23 = .ok (.iload_n 3, 1) := by decide +kernel
theorem dX7_worth_24 : decode cX7_worth 24 = .ok (.invokevirtual 47, 3) := by decide +kernel
theorem dX7_worth_27 : decode cX7_worth 27 = .ok (.ifCond .lt 36, 3) := by decide +kernel
theorem dX7_worth_30 : decode cX7_worth 30 = .ok (.aload_n 0, 1) := by decide +kernel
theorem dX7_worth_31 : decode cX7_worth 31 = .ok (.iload_n 1, 1) := by decide +kernel
theorem dX7_worth_32 : decode cX7_worth 32 = .ok (.iload_n 3, 1) := by decide +kernel
theorem dX7_worth_33 : decode cX7_worth 33 = .ok (.invokevirtual 47, 3) := by decide +kernel
theorem dX7_worth_36 : decode cX7_worth 36 = .ok (.aload_n 0, 1) := by decide +kernel
theorem dX7_worth_37 : decode cX7_worth 37 = .ok (.getfield 35, 3) := by decide +kernel
theorem dX7_worth_40 : decode cX7_worth 40 = .ok (.iload_n 3, 1) := by decide +kernel
theorem dX7_worth_41 : decode cX7_worth 41 = .ok (.iaload, 1) := by decide +kernel
theorem dX7_worth_42 : decode cX7_worth 42 = .ok (.iadd, 1) := by decide +kernel
theorem dX7_worth_43 : decode cX7_worth 43 = .ok (.iload_n 2, 1) := by decide +kernel
theorem dX7_worth_44 : decode cX7_worth 44 = .ok (.if_icmp .ge 19, 3) := by decide +kernel
theorem dX7_worth_47 : decode cX7_worth 47 = .ok (.aload_n 0, 1) := by decide +kernel
theorem dX7_worth_48 : decode cX7_worth 48 = .ok (.iload_n 1, 1) := by decide +kernel
theorem dX7_worth_49 : decode cX7_worth 49 = .ok (.iload_n 3, 1) := by decide +kernel
theorem dX7_worth_50 : decode cX7_worth 50 = .ok (.invokevirtual 47, 3) := by decide +kernel
theorem dX7_worth_53 : decode cX7_worth 53 = .ok (.aload_n 0, 1) := by decide +kernel
theorem dX7_worth_54 : decode cX7_worth 54 = .ok (.getfield 35, 3) := by decide +kernel
theorem dX7_worth_57 : decode cX7_worth 57 = .ok (.iload_n 3, 1) := by decide +kernel
theorem dX7_worth_58 : decode cX7_worth 58 = .ok (.iaload, 1) := by decide +kernel
theorem dX7_worth_59 : decode cX7_worth 59 = .ok (.iadd, 1) := by decide +kernel
theorem dX7_worth_60 : decode cX7_worth 60 = .ok (.goto 4, 3) := by decide +kernel
theorem dX7_worth_63 : decode cX7_worth 63 = .ok (.iload_n 2, 1) := by decide +kernel
theorem dX7_worth_64 : decode cX7_worth 64 = .ok (.istore_n 2, 1) := by decide +kernel
theorem dX7_worth_65 : decode cX7_worth 65 = .ok (.iinc 3 1, 3) := by decide +kernel
theorem dX7_worth_68 : decode cX7_worth 68 = .ok (.goto (-57), 3) := by decide +kernel
theorem dX7_worth_71 : decode cX7_worth 71 = .ok (.iload_n 2, 1) := by decide +kernel
theorem dX7_worth_72 : decode cX7_worth 72 = .ok (.ireturn, 1) := by decide +kernel
set_option maxRecDepth 20000 in
theorem ggX7_tight_X7_worth : GoodIn wsX7_tight wsX7_worth := goodIn_r _ [7, 1, 2, 8, 9, 10, 6, 11, 12, 13, 14, 15, 16, 17, 18, 19, 20, 21, 22, 23, 24, 25, 26, 27, 28, 29] (by decide +kernel) (by decide +kernel)
set_option maxRecDepth 20000 in
theorem gX7_tight_X7_worth : GoodIn wsX7_tight (wsV RX7 99 RX7 yX7_worth wsX7_worth) := goodIn_app (goodIn_of _ (by decide +kernel)) ggX7_tight_X7_worth
set_option maxRecDepth 20000 in
theorem ggX7_tight_X7_of : GoodIn wsX7_tight wsX7_of := goodIn_r _ [11, 1, 12, 13, 14, 15, 16, 17, 18, 19, 20, 21, 22, 23, 24, 25, 26, 27, 28, 29] (by decide +kernel) (by decide +kernel)
set_option maxRecDepth 20000 in
theorem gX7_tight_X7_of : GoodIn wsX7_tight (wsV RX7 47 RX7 yX7_of wsX7_of) := goodIn_app (goodIn_of _ (by decide +kernel)) ggX7_tight_X7_of
theorem dX7_tight_0 : decode cX7_tight 0 = .ok (.iconst 0, 1) := by decide +kernel
theorem dX7_tight_1 : decode cX7_tight 1 = .ok (.istore_n 2, 1) := by decide +kernel
theorem dX7_tight_2 : decode cX7_tight 2 = .ok (.aload_n 0, 1) := by decide +kernel
theorem dX7_tight_3 : decode cX7_tight 3 = .ok (.iload_n 1, 1) := by decide +kernel
theorem dX7_tight_4 : decode cX7_tight 4 = .ok (.invokevirtual 99, 3) := by decide +kernel
theorem dX7_tight_7 : decode cX7_tight 7 = .ok (.istore_n 3, 1) := by decide +kernel
theorem dX7_tight_8 : decode cX7_tight 8 = .ok (.iconst 0, 1) := by decide +kernel
theorem dX7_tight_9 : decode cX7_tight 9 = .ok (.istore 4, 2) := by decide +kernel
theorem dX7_tight_11 : decode cX7_tight 11 = .ok (.iload 4, 2) := by decide +kernel
theorem dX7_tight_13 : decode cX7_tight 13 = .ok (.aload_n 0, 1) := by decide +kernel
theorem dX7_tight_14 : decode cX7_tight 14 = .ok (.getfield 7, 3) := by decide +kernel
theorem dX7_tight_17 : decode cX7_tight 17 = .ok (.iconst 1, 1) := by decide +kernel
theorem dX7_tight_18 : decode cX7_tight 18 = .ok (.iaload, 1) := by decide +kernel
theorem dX7_tight_19 : decode cX7_tight 19 = .ok (.if_icmp .ge 49, 3) := by decide +kernel
theorem dX7_tight_22 : decode cX7_tight 22 = .ok (.iload_n 2, 1) := by decide +kernel
theorem dX7_tight_23 : decode cX7_tight 23 = .ok (.aload_n 0, 1) := by decide +kernel
theorem dX7_tight_24 : decode cX7_tight 24 = .ok (.iload_n 1, 1) := by decide +kernel
theorem dX7_tight_25 : decode cX7_tight 25 = .ok (.iload 4, 2) := by decide +kernel
theorem dX7_tight_27 : decode cX7_tight 27 = .ok (.invokevirtual 47, 3) := by decide +kernel
theorem dX7_tight_30 : decode cX7_tight 30 = .ok (.ifCond .lt 29, 3) := by decide +kernel
theorem dX7_tight_33 : decode cX7_tight 33 = .ok (.aload_n 0, 1) := by decide +kernel
theorem dX7_tight_34 : decode cX7_tight 34 = .ok (.iload_n 1, 1) := by decide +kernel
theorem dX7_tight_35 : decode cX7_tight 35 = .ok (.iload 4, 2) := by decide +kernel
theorem dX7_tight_37 : decode cX7_tight 37 = .ok (.invokevirtual 47, 3) := by decide +kernel
theorem dX7_tight_40 : decode cX7_tight 40 = .ok (.aload_n 0, 1) := by decide +kernel
theorem dX7_tight_41 : decode cX7_tight 41 = .ok (.getfield 35, 3) := by decide +kernel
theorem dX7_tight_44 : decode cX7_tight 44 = .ok (.iload 4, 2) := by decide +kernel
theorem dX7_tight_46 : decode cX7_tight 46 = .ok (.iaload, 1) := by decide +kernel
theorem dX7_tight_47 : decode cX7_tight 47 = .ok (.iadd, 1) := by decide +kernel
theorem dX7_tight_48 : decode cX7_tight 48 = .ok (.iload_n 3, 1) := by decide +kernel
theorem dX7_tight_49 : decode cX7_tight 49 = .ok (.if_icmp .ne 10, 3) := by decide +kernel
theorem dX7_tight_52 : decode cX7_tight 52 = .ok (.iconst 1, 1) := by decide +kernel
theorem dX7_tight_53 : decode cX7_tight 53 = .ok (.iload 4, 2) := by decide +kernel
theorem dX7_tight_55 : decode cX7_tight 55 = .ok (.ishl, 1) := by decide +kernel
theorem dX7_tight_56 : decode cX7_tight 56 = .ok (.goto 4, 3) := by decide +kernel
theorem dX7_tight_59 : decode cX7_tight 59 = .ok (.iconst 0, 1) := by decide +kernel
theorem dX7_tight_60 : decode cX7_tight 60 = .ok (.ior, 1) := by decide +kernel
theorem dX7_tight_61 : decode cX7_tight 61 = .ok (.istore_n 2, 1) := by decide +kernel
theorem dX7_tight_62 : decode cX7_tight 62 = .ok (.iinc 4 1, 3) := by decide +kernel
theorem dX7_tight_65 : decode cX7_tight 65 = .ok (.goto (-54), 3) := by decide +kernel
theorem dX7_tight_68 : decode cX7_tight 68 = .ok (.iload_n 2, 1) := by decide +kernel
theorem dX7_tight_69 : decode cX7_tight 69 = .ok (.ireturn, 1) := by decide +kernel
set_option maxRecDepth 20000 in
theorem ggX7_workerIs_X7_isWorker : GoodIn wsX7_workerIs wsX7_isWorker := goodIn_r _ [6, 1, 56, 57, 58, 59, 60, 61, 62, 63, 64, 65, 66, 67, 68, 69, 70, 71, 72, 73] (by decide +kernel) (by decide +kernel)
set_option maxRecDepth 20000 in
theorem gX7_workerIs_X7_isWorker : GoodIn wsX7_workerIs (wsV RX7 75 RX7 yX7_isWorker wsX7_isWorker) := goodIn_app (goodIn_of _ (by decide +kernel)) ggX7_workerIs_X7_isWorker
set_option maxRecDepth 20000 in
theorem ggX7_workerIs_X7_in : GoodIn wsX7_workerIs wsX7_in := goodIn_r _ [9] (by decide +kernel) (by decide +kernel)
set_option maxRecDepth 20000 in
theorem gX7_workerIs_X7_in : GoodIn wsX7_workerIs (va_wsS RX7 68 yX7_in wsX7_in) := goodIn_app (goodIn_of _ (by decide +kernel)) ggX7_workerIs_X7_in
set_option maxRecDepth 20000 in
theorem ggX7_workerIs_X7_leastTotal : GoodIn wsX7_workerIs wsX7_leastTotal := goodIn_r _ [13, 14, 15, 16, 5, 17, 1, 18, 19, 20, 21, 22, 23, 24, 25, 26, 27, 28, 29, 30, 31, 32, 33, 34, 35, 36, 37, 38, 56, 57, 58, 59, 60, 61, 62, 63, 64, 65, 66, 67, 68, 69, 70, 71, 72, 73] (by decide +kernel) (by decide +kernel)
set_option maxRecDepth 20000 in
theorem gX7_workerIs_X7_leastTotal : GoodIn wsX7_workerIs (wsV RX7 65 RX7 yX7_leastTotal wsX7_leastTotal) := goodIn_app (goodIn_of _ (by decide +kernel)) ggX7_workerIs_X7_leastTotal
set_option maxRecDepth 20000 in
theorem ggX7_workerIs_X7_allWorkers : GoodIn wsX7_workerIs wsX7_allWorkers := goodIn_r _ [17, 1, 56, 57, 58, 59, 60, 61, 62, 63, 64, 65, 66, 67, 68, 69, 70, 71, 72, 73] (by decide +kernel) (by decide +kernel)
set_option maxRecDepth 20000 in
theorem gX7_workerIs_X7_allWorkers : GoodIn wsX7_workerIs (wsV RX7 55 RX7 yX7_allWorkers wsX7_allWorkers) := goodIn_app (goodIn_of _ (by decide +kernel)) ggX7_workerIs_X7_allWorkers
set_option maxRecDepth 20000 in
theorem ggX7_workerIs_X7_allTasks : GoodIn wsX7_workerIs wsX7_allTasks := goodIn_r _ [21, 1, 56, 57, 58, 59, 60, 61, 62, 63, 64, 65, 66, 67, 68, 69, 70, 71, 72, 73] (by decide +kernel) (by decide +kernel)
set_option maxRecDepth 20000 in
theorem gX7_workerIs_X7_allTasks : GoodIn wsX7_workerIs (wsV RX7 59 RX7 yX7_allTasks wsX7_allTasks) := goodIn_app (goodIn_of _ (by decide +kernel)) ggX7_workerIs_X7_allTasks
set_option maxRecDepth 20000 in
theorem ggX7_workerIs_X7_leastFor : GoodIn wsX7_workerIs wsX7_leastFor := goodIn_r _ [25, 26, 27, 1, 28, 29, 30, 5, 31, 32, 33, 34, 35, 36, 37, 38, 56, 57, 58, 59, 60, 61, 62, 63, 64, 65, 66, 67, 68, 69, 70, 71, 72, 73] (by decide +kernel) (by decide +kernel)
set_option maxRecDepth 20000 in
theorem gX7_workerIs_X7_leastFor : GoodIn wsX7_workerIs (wsV RX7 62 RX7 yX7_leastFor wsX7_leastFor) := goodIn_app (goodIn_of _ (by decide +kernel)) ggX7_workerIs_X7_leastFor
set_option maxRecDepth 20000 in
theorem ggX7_workerIs_X7_pricesAll : GoodIn wsX7_workerIs wsX7_pricesAll := goodIn_r _ [42, 1, 43, 44, 45, 46, 5, 47, 34, 14, 15, 16, 17, 18, 19, 20, 21, 22, 23, 24, 25, 26, 27, 28, 29, 30, 31, 32, 33, 35, 36, 37, 38, 10, 11, 12, 13, 56, 57, 58, 59, 60, 61, 62, 63, 64, 65, 66, 67, 68, 69, 70, 71, 72, 73] (by decide +kernel) (by decide +kernel)
set_option maxRecDepth 20000 in
theorem gX7_workerIs_X7_pricesAll : GoodIn wsX7_workerIs (wsV RX7 102 RX7 yX7_pricesAll wsX7_pricesAll) := goodIn_app (goodIn_of _ (by decide +kernel)) ggX7_workerIs_X7_pricesAll
set_option maxRecDepth 20000 in
theorem ggX7_workerIs_X7_worth : GoodIn wsX7_workerIs wsX7_worth := goodIn_r _ [51, 1, 43, 35, 36, 37, 5, 38, 56, 57, 58, 59, 60, 61, 62, 63, 64, 65, 66, 67, 68, 69, 70, 71, 72, 73] (by decide +kernel) (by decide +kernel)
set_option maxRecDepth 20000 in
theorem gX7_workerIs_X7_worth : GoodIn wsX7_workerIs (wsV RX7 99 RX7 yX7_worth wsX7_worth) := goodIn_app (goodIn_of _ (by decide +kernel)) ggX7_workerIs_X7_worth
set_option maxRecDepth 20000 in
theorem ggX7_workerIs_X7_tight : GoodIn wsX7_workerIs wsX7_tight := goodIn_r _ [55, 1, 43, 48, 49, 50, 5, 51, 35, 36, 37, 38, 56, 57, 58, 59, 60, 61, 62, 63, 64, 65, 66, 67, 68, 69, 70, 71, 72, 73] (by decide +kernel) (by decide +kernel)
set_option maxRecDepth 20000 in
theorem gX7_workerIs_X7_tight : GoodIn wsX7_workerIs (wsV RX7 105 RX7 yX7_tight wsX7_tight) := goodIn_app (goodIn_of _ (by decide +kernel)) ggX7_workerIs_X7_tight
theorem dX7_workerIs_0 : decode cX7_workerIs 0 = .ok (.aload_n 0, 1) := by decide +kernel
theorem dX7_workerIs_1 : decode cX7_workerIs 1 = .ok (.iload_n 1, 1) := by decide +kernel
theorem dX7_workerIs_2 : decode cX7_workerIs 2 = .ok (.invokevirtual 75, 3) := by decide +kernel
theorem dX7_workerIs_5 : decode cX7_workerIs 5 = .ok (.ifCond .eq 12, 3) := by decide +kernel
theorem dX7_workerIs_8 : decode cX7_workerIs 8 = .ok (.iload_n 2, 1) := by decide +kernel
theorem dX7_workerIs_9 : decode cX7_workerIs 9 = .ok (.iconst 0, 1) := by decide +kernel
theorem dX7_workerIs_10 : decode cX7_workerIs 10 = .ok (.iconst 3, 1) := by decide +kernel
theorem dX7_workerIs_11 : decode cX7_workerIs 11 = .ok (.invokestatic 68, 3) := by decide +kernel
theorem dX7_workerIs_14 : decode cX7_workerIs 14 = .ok (.ifCond .ne 5, 3) := by decide +kernel
theorem dX7_workerIs_17 : decode cX7_workerIs 17 = .ok (.iconst (-1), 1) := by decide +kernel
theorem dX7_workerIs_18 : decode cX7_workerIs 18 = .ok (.ireturn, 1) := by decide +kernel
theorem dX7_workerIs_19 : decode cX7_workerIs 19 = .ok (.iload_n 2, 1) := by decide +kernel
theorem dX7_workerIs_20 : decode cX7_workerIs 20 = .ok (.iconst 3, 1) := by decide +kernel
theorem dX7_workerIs_21 : decode cX7_workerIs 21 = .ok (.if_icmp .ne 25, 3) := by decide +kernel
theorem dX7_workerIs_24 : decode cX7_workerIs 24 = .ok (.aload_n 0, 1) := by decide +kernel
theorem dX7_workerIs_25 : decode cX7_workerIs 25 = .ok (.invokevirtual 65, 3) := by decide +kernel
theorem dX7_workerIs_28 : decode cX7_workerIs 28 = .ok (.aload_n 0, 1) := by decide +kernel
theorem dX7_workerIs_29 : decode cX7_workerIs 29 = .ok (.aload_n 0, 1) := by decide +kernel
theorem dX7_workerIs_30 : decode cX7_workerIs 30 = .ok (.invokevirtual 55, 3) := by decide +kernel
theorem dX7_workerIs_33 : decode cX7_workerIs 33 = .ok (.iconst 1, 1) := by decide +kernel
theorem dX7_workerIs_34 : decode cX7_workerIs 34 = .ok (.iload_n 1, 1) := by decide +kernel
theorem dX7_workerIs_35 : decode cX7_workerIs 35 = .ok (.ishl, 1) := by decide +kernel
theorem dX7_workerIs_36 : decode cX7_workerIs 36 = .ok (.isub, 1) := by decide +kernel
theorem dX7_workerIs_37 : decode cX7_workerIs 37 = .ok (.aload_n 0, 1) := by decide +kernel
theorem dX7_workerIs_38 : decode cX7_workerIs 38 = .ok (.invokevirtual 59, 3) := by decide +kernel
theorem dX7_workerIs_41 : decode cX7_workerIs 41 = .ok (.invokevirtual 62, 3) := by decide +kernel
theorem dX7_workerIs_44 : decode cX7_workerIs 44 = .ok (.isub, 1) := by decide +kernel
theorem dX7_workerIs_45 : decode cX7_workerIs 45 = .ok (.ireturn, 1) := by decide +kernel
theorem dX7_workerIs_46 : decode cX7_workerIs 46 = .ok (.aload_n 0, 1) := by decide +kernel
theorem dX7_workerIs_47 : decode cX7_workerIs 47 = .ok (.invokevirtual 102, 3) := by decide +kernel
theorem dX7_workerIs_50 : decode cX7_workerIs 50 = .ok (.istore_n 3, 1) := by decide +kernel
theorem dX7_workerIs_51 : decode cX7_workerIs 51 = .ok (.iload_n 3, 1) := by decide +kernel
theorem dX7_workerIs_52 : decode cX7_workerIs 52 = .ok (.ifCond .ge 8, 3) := by decide +kernel
theorem dX7_workerIs_55 : decode cX7_workerIs 55 = .ok (.bipush (-4), 2) := by decide +kernel
theorem dX7_workerIs_57 : decode cX7_workerIs 57 = .ok (.goto 49, 3) := by decide +kernel
theorem dX7_workerIs_60 : decode cX7_workerIs 60 = .ok (.iload_n 2, 1) := by decide +kernel
theorem dX7_workerIs_61 : decode cX7_workerIs 61 = .ok (.ifCond .ne 11, 3) := by decide +kernel
theorem dX7_workerIs_64 : decode cX7_workerIs 64 = .ok (.aload_n 0, 1) := by decide +kernel
theorem dX7_workerIs_65 : decode cX7_workerIs 65 = .ok (.iload_n 1, 1) := by decide +kernel
theorem dX7_workerIs_66 : decode cX7_workerIs 66 = .ok (.invokevirtual 99, 3) := by decide +kernel
theorem dX7_workerIs_69 : decode cX7_workerIs 69 = .ok (.goto 37, 3) := by decide +kernel
theorem dX7_workerIs_72 : decode cX7_workerIs 72 = .ok (.iload_n 2, 1) := by decide +kernel
theorem dX7_workerIs_73 : decode cX7_workerIs 73 = .ok (.iconst 1, 1) := by decide +kernel
theorem dX7_workerIs_74 : decode cX7_workerIs 74 = .ok (.if_icmp .ne 11, 3) := by decide +kernel
theorem dX7_workerIs_77 : decode cX7_workerIs 77 = .ok (.aload_n 0, 1) := by decide +kernel
theorem dX7_workerIs_78 : decode cX7_workerIs 78 = .ok (.iload_n 1, 1) := by decide +kernel
theorem dX7_workerIs_79 : decode cX7_workerIs 79 = .ok (.invokevirtual 105, 3) := by decide +kernel
theorem dX7_workerIs_82 : decode cX7_workerIs 82 = .ok (.goto 24, 3) := by decide +kernel
theorem dX7_workerIs_85 : decode cX7_workerIs 85 = .ok (.aload_n 0, 1) := by decide +kernel
theorem dX7_workerIs_86 : decode cX7_workerIs 86 = .ok (.iload_n 1, 1) := by decide +kernel
theorem dX7_workerIs_87 : decode cX7_workerIs 87 = .ok (.invokevirtual 99, 3) := by decide +kernel
theorem dX7_workerIs_90 : decode cX7_workerIs 90 = .ok (.aload_n 0, 1) := by decide +kernel
theorem dX7_workerIs_91 : decode cX7_workerIs 91 = .ok (.getfield 7, 3) := by decide +kernel
theorem dX7_workerIs_94 : decode cX7_workerIs 94 = .ok (.iconst 2, 1) := by decide +kernel
theorem dX7_workerIs_95 : decode cX7_workerIs 95 = .ok (.iload_n 1, 1) := by decide +kernel
theorem dX7_workerIs_96 : decode cX7_workerIs 96 = .ok (.iadd, 1) := by decide +kernel
theorem dX7_workerIs_97 : decode cX7_workerIs 97 = .ok (.iaload, 1) := by decide +kernel
theorem dX7_workerIs_98 : decode cX7_workerIs 98 = .ok (.if_icmp .ne 7, 3) := by decide +kernel
theorem dX7_workerIs_101 : decode cX7_workerIs 101 = .ok (.iconst 1, 1) := by decide +kernel
theorem dX7_workerIs_102 : decode cX7_workerIs 102 = .ok (.goto 4, 3) := by decide +kernel
theorem dX7_workerIs_105 : decode cX7_workerIs 105 = .ok (.iconst 0, 1) := by decide +kernel
theorem dX7_workerIs_106 : decode cX7_workerIs 106 = .ok (.ireturn, 1) := by decide +kernel
set_option maxRecDepth 20000 in
theorem ggX7_proof_X7_pricesAll : GoodIn wsX7_proof wsX7_pricesAll := goodIn_r _ [6, 1, 7, 8, 9, 10, 5, 11, 12, 13, 14, 15, 16, 17, 18, 19, 20, 21, 22, 23, 24, 25, 26, 27, 28, 29, 30, 31, 32, 33, 34, 35, 36, 37, 38, 39, 40, 45, 46, 47, 48, 49, 50, 51, 52, 53, 54, 55, 56, 57, 58, 59, 60, 61, 62] (by decide +kernel) (by decide +kernel)
set_option maxRecDepth 20000 in
theorem gX7_proof_X7_pricesAll : GoodIn wsX7_proof (wsV RX7 102 RX7 yX7_pricesAll wsX7_pricesAll) := goodIn_app (goodIn_of _ (by decide +kernel)) ggX7_proof_X7_pricesAll
set_option maxRecDepth 20000 in
theorem ggX7_proof_X7_worth : GoodIn wsX7_proof wsX7_worth := goodIn_r _ [44, 1, 7, 33, 34, 35, 5, 36, 45, 46, 47, 48, 49, 50, 51, 52, 53, 54, 55, 56, 57, 58, 59, 60, 61, 62] (by decide +kernel) (by decide +kernel)
set_option maxRecDepth 20000 in
theorem gX7_proof_X7_worth : GoodIn wsX7_proof (wsV RX7 99 RX7 yX7_worth wsX7_worth) := goodIn_app (goodIn_of _ (by decide +kernel)) ggX7_proof_X7_worth
theorem dX7_proof_0 : decode cX7_proof 0 = .ok (.aload_n 0, 1) := by decide +kernel
theorem dX7_proof_1 : decode cX7_proof 1 = .ok (.invokevirtual 102, 3) := by decide +kernel
theorem dX7_proof_4 : decode cX7_proof 4 = .ok (.ineg, 1) := by decide +kernel
theorem dX7_proof_5 : decode cX7_proof 5 = .ok (.istore_n 1, 1) := by decide +kernel
theorem dX7_proof_6 : decode cX7_proof 6 = .ok (.iconst 0, 1) := by decide +kernel
theorem dX7_proof_7 : decode cX7_proof 7 = .ok (.istore_n 2, 1) := by decide +kernel
theorem dX7_proof_8 : decode cX7_proof 8 = .ok (.iload_n 2, 1) := by decide +kernel
theorem dX7_proof_9 : decode cX7_proof 9 = .ok (.aload_n 0, 1) := by decide +kernel
theorem dX7_proof_10 : decode cX7_proof 10 = .ok (.getfield 7, 3) := by decide +kernel
theorem dX7_proof_13 : decode cX7_proof 13 = .ok (.iconst 0, 1) := by decide +kernel
theorem dX7_proof_14 : decode cX7_proof 14 = .ok (.iaload, 1) := by decide +kernel
theorem dX7_proof_15 : decode cX7_proof 15 = .ok (.if_icmp .ge 17, 3) := by decide +kernel
theorem dX7_proof_18 : decode cX7_proof 18 = .ok (.iload_n 1, 1) := by decide +kernel
theorem dX7_proof_19 : decode cX7_proof 19 = .ok (.aload_n 0, 1) := by decide +kernel
theorem dX7_proof_20 : decode cX7_proof 20 = .ok (.iload_n 2, 1) := by decide +kernel
theorem dX7_proof_21 : decode cX7_proof 21 = .ok (.invokevirtual 99, 3) := by decide +kernel
theorem dX7_proof_24 : decode cX7_proof 24 = .ok (.iadd, 1) := by decide +kernel
theorem dX7_proof_25 : decode cX7_proof 25 = .ok (.istore_n 1, 1) := by decide +kernel
theorem dX7_proof_26 : decode cX7_proof 26 = .ok (.iinc 2 1, 3) := by decide +kernel
theorem dX7_proof_29 : decode cX7_proof 29 = .ok (.goto (-21), 3) := by decide +kernel
theorem dX7_proof_32 : decode cX7_proof 32 = .ok (.iload_n 1, 1) := by decide +kernel
theorem dX7_proof_33 : decode cX7_proof 33 = .ok (.ireturn, 1) := by decide +kernel
set_option maxRecDepth 20000 in
theorem ggX7_with_X7_allWorkers : GoodIn wsX7_with wsX7_allWorkers := goodIn_r _ [6, 1, 28, 29, 30, 31, 32, 33, 34, 35, 36, 37, 38, 39, 40, 41, 42, 43, 44, 45] (by decide +kernel) (by decide +kernel)
set_option maxRecDepth 20000 in
theorem gX7_with_X7_allWorkers : GoodIn wsX7_with (wsV RX7 55 RX7 yX7_allWorkers wsX7_allWorkers) := goodIn_app (goodIn_of _ (by decide +kernel)) ggX7_with_X7_allWorkers
set_option maxRecDepth 20000 in
theorem ggX7_with_X7_allTasks : GoodIn wsX7_with wsX7_allTasks := goodIn_r _ [10, 1, 28, 29, 30, 31, 32, 33, 34, 35, 36, 37, 38, 39, 40, 41, 42, 43, 44, 45] (by decide +kernel) (by decide +kernel)
set_option maxRecDepth 20000 in
theorem gX7_with_X7_allTasks : GoodIn wsX7_with (wsV RX7 59 RX7 yX7_allTasks wsX7_allTasks) := goodIn_app (goodIn_of _ (by decide +kernel)) ggX7_with_X7_allTasks
set_option maxRecDepth 20000 in
theorem ggX7_with_X7_leastFor : GoodIn wsX7_with wsX7_leastFor := goodIn_r _ [14, 15, 16, 1, 17, 18, 19, 5, 20, 21, 22, 23, 24, 25, 26, 27, 28, 29, 30, 31, 32, 33, 34, 35, 36, 37, 38, 39, 40, 41, 42, 43, 44, 45] (by decide +kernel) (by decide +kernel)
set_option maxRecDepth 20000 in
theorem gX7_with_X7_leastFor : GoodIn wsX7_with (wsV RX7 62 RX7 yX7_leastFor wsX7_leastFor) := goodIn_app (goodIn_of _ (by decide +kernel)) ggX7_with_X7_leastFor
set_option maxRecDepth 20000 in
theorem ggX7_with_X7_of : GoodIn wsX7_with wsX7_of := goodIn_r _ [27, 1, 28, 29, 30, 31, 32, 33, 34, 35, 36, 37, 38, 39, 40, 41, 42, 43, 44, 45] (by decide +kernel) (by decide +kernel)
set_option maxRecDepth 20000 in
theorem gX7_with_X7_of : GoodIn wsX7_with (wsV RX7 47 RX7 yX7_of wsX7_of) := goodIn_app (goodIn_of _ (by decide +kernel)) ggX7_with_X7_of
theorem dX7_with_0 : decode cX7_with 0 = .ok (.aload_n 0, 1) := by decide +kernel
theorem dX7_with_1 : decode cX7_with 1 = .ok (.invokevirtual 55, 3) := by decide +kernel
theorem dX7_with_4 : decode cX7_with 4 = .ok (.iconst 1, 1) := by decide +kernel
theorem dX7_with_5 : decode cX7_with 5 = .ok (.iload_n 1, 1) := by decide +kernel
theorem dX7_with_6 : decode cX7_with 6 = .ok (.ishl, 1) := by decide +kernel
theorem dX7_with_7 : decode cX7_with 7 = .ok (.isub, 1) := by decide +kernel
theorem dX7_with_8 : decode cX7_with 8 = .ok (.istore_n 3, 1) := by decide +kernel
theorem dX7_with_9 : decode cX7_with 9 = .ok (.iload_n 2, 1) := by decide +kernel
theorem dX7_with_10 : decode cX7_with 10 = .ok (.ifCond .ge 24, 3) := by decide +kernel
theorem dX7_with_13 : decode cX7_with 13 = .ok (.aload_n 0, 1) := by decide +kernel
theorem dX7_with_14 : decode cX7_with 14 = .ok (.getfield 7, 3) := by decide +kernel
theorem dX7_with_17 : decode cX7_with 17 = .ok (.iconst 2, 1) := by decide +kernel
theorem dX7_with_18 : decode cX7_with 18 = .ok (.iload_n 1, 1) := by decide +kernel
theorem dX7_with_19 : decode cX7_with 19 = .ok (.iadd, 1) := by decide +kernel
theorem dX7_with_20 : decode cX7_with 20 = .ok (.iaload, 1) := by decide +kernel
theorem dX7_with_21 : decode cX7_with 21 = .ok (.aload_n 0, 1) := by decide +kernel
theorem dX7_with_22 : decode cX7_with 22 = .ok (.iload_n 3, 1) := by decide +kernel
theorem dX7_with_23 : decode cX7_with 23 = .ok (.aload_n 0, 1) := by decide +kernel
theorem dX7_with_24 : decode cX7_with 24 = .ok (.invokevirtual 59, 3) := by decide +kernel
theorem dX7_with_27 : decode cX7_with 27 = .ok (.invokevirtual 62, 3) := by decide +kernel
theorem dX7_with_30 : decode cX7_with 30 = .ok (.iadd, 1) := by decide +kernel
theorem dX7_with_31 : decode cX7_with 31 = .ok (.goto 23, 3) := by decide +kernel
theorem dX7_with_34 : decode cX7_with 34 = .ok (.aload_n 0, 1) := by decide +kernel
theorem dX7_with_35 : decode cX7_with 35 = .ok (.iload_n 1, 1) := by decide +kernel
theorem dX7_with_36 : decode cX7_with 36 = .ok (.iload_n 2, 1) := by decide +kernel
theorem dX7_with_37 : decode cX7_with 37 = .ok (.invokevirtual 47, 3) := by decide +kernel
theorem dX7_with_40 : decode cX7_with 40 = .ok (.aload_n 0, 1) := by decide +kernel
theorem dX7_with_41 : decode cX7_with 41 = .ok (.iload_n 3, 1) := by decide +kernel
theorem dX7_with_42 : decode cX7_with 42 = .ok (.aload_n 0, 1) := by decide +kernel
theorem dX7_with_43 : decode cX7_with 43 = .ok (.invokevirtual 59, 3) := by decide +kernel
theorem dX7_with_46 : decode cX7_with 46 = .ok (.iconst 1, 1) := by decide +kernel
theorem dX7_with_47 : decode cX7_with 47 = .ok (.iload_n 2, 1) := by decide +kernel
theorem dX7_with_48 : decode cX7_with 48 = .ok (.ishl, 1) := by decide +kernel
theorem dX7_with_49 : decode cX7_with 49 = .ok (.isub, 1) := by decide +kernel
theorem dX7_with_50 : decode cX7_with 50 = .ok (.invokevirtual 62, 3) := by decide +kernel
theorem dX7_with_53 : decode cX7_with 53 = .ok (.iadd, 1) := by decide +kernel
theorem dX7_with_54 : decode cX7_with 54 = .ok (.ireturn, 1) := by decide +kernel
set_option maxRecDepth 20000 in
theorem ggX7_busy_X7_of : GoodIn wsX7_busy wsX7_of := goodIn_r _ [7, 2, 32, 33, 34, 35, 36, 37, 38, 39, 40, 41, 42, 43, 44, 45, 46, 47, 48, 49] (by decide +kernel) (by decide +kernel)
set_option maxRecDepth 20000 in
theorem gX7_busy_X7_of : GoodIn wsX7_busy (wsV RX7 47 RX7 yX7_of wsX7_of) := goodIn_app (goodIn_of _ (by decide +kernel)) ggX7_busy_X7_of
set_option maxRecDepth 20000 in
theorem ggX7_busy_X7_with : GoodIn wsX7_busy wsX7_with := goodIn_r _ [11, 2, 12, 13, 14, 6, 15, 16, 17, 18, 19, 20, 21, 22, 23, 24, 1, 25, 26, 27, 28, 29, 30, 31, 3, 4, 5, 7, 32, 33, 34, 35, 36, 37, 38, 39, 40, 41, 42, 43, 44, 45, 46, 47, 48, 49] (by decide +kernel) (by decide +kernel)
set_option maxRecDepth 20000 in
theorem gX7_busy_X7_with : GoodIn wsX7_busy (wsV RX7 108 RX7 yX7_with wsX7_with) := goodIn_app (goodIn_of _ (by decide +kernel)) ggX7_busy_X7_with
theorem dX7_busy_0 : decode cX7_busy 0 = .ok (.ldc 51, 2) := by decide +kernel
theorem dX7_busy_2 : decode cX7_busy 2 = .ok (.istore_n 2, 1) := by decide +kernel
theorem dX7_busy_3 : decode cX7_busy 3 = .ok (.iconst 0, 1) := by decide +kernel
theorem dX7_busy_4 : decode cX7_busy 4 = .ok (.istore_n 3, 1) := by decide +kernel
theorem dX7_busy_5 : decode cX7_busy 5 = .ok (.iload_n 3, 1) := by decide +kernel
theorem dX7_busy_6 : decode cX7_busy 6 = .ok (.aload_n 0, 1) := by decide +kernel
theorem dX7_busy_7 : decode cX7_busy 7 = .ok (.getfield 7, 3) := by decide +kernel
theorem dX7_busy_10 : decode cX7_busy 10 = .ok (.iconst 1, 1) := by decide +kernel
theorem dX7_busy_11 : decode cX7_busy 11 = .ok (.iaload, 1) := by decide +kernel
theorem dX7_busy_12 : decode cX7_busy 12 = .ok (.if_icmp .ge 44, 3) := by decide +kernel
theorem dX7_busy_15 : decode cX7_busy 15 = .ok (.aload_n 0, 1) := by decide +kernel
theorem dX7_busy_16 : decode cX7_busy 16 = .ok (.iload_n 1, 1) := by decide +kernel
theorem dX7_busy_17 : decode cX7_busy 17 = .ok (.iload_n 3, 1) := by decide +kernel
theorem dX7_busy_18 : decode cX7_busy 18 = .ok (.invokevirtual 47, 3) := by decide +kernel
theorem dX7_busy_21 : decode cX7_busy 21 = .ok (.ifCond .ge 8, 3) := by decide +kernel
theorem dX7_busy_24 : decode cX7_busy 24 = .ok (.ldc 51, 2) := by decide +kernel
theorem dX7_busy_26 : decode cX7_busy 26 = .ok (.goto 9, 3) := by decide +kernel
theorem dX7_busy_29 : decode cX7_busy 29 = .ok (.aload_n 0, 1) := by decide +kernel
theorem dX7_busy_30 : decode cX7_busy 30 = .ok (.iload_n 1, 1) := by decide +kernel
theorem dX7_busy_31 : decode cX7_busy 31 = .ok (.iload_n 3, 1) := by decide +kernel
theorem dX7_busy_32 : decode cX7_busy 32 = .ok (.invokevirtual 108, 3) := by decide +kernel
theorem dX7_busy_35 : decode cX7_busy 35 = .ok (.istore 4, 2) := by decide +kernel
theorem dX7_busy_37 : decode cX7_busy 37 = .ok (.iload 4, 2) := by decide +kernel
theorem dX7_busy_39 : decode cX7_busy 39 = .ok (.iload_n 2, 1) := by decide +kernel
theorem dX7_busy_40 : decode cX7_busy 40 = .ok (.if_icmp .ge 8, 3) := by decide +kernel
theorem dX7_busy_43 : decode cX7_busy 43 = .ok (.iload 4, 2) := by decide +kernel
theorem dX7_busy_45 : decode cX7_busy 45 = .ok (.goto 4, 3) := by decide +kernel
theorem dX7_busy_48 : decode cX7_busy 48 = .ok (.iload_n 2, 1) := by decide +kernel
theorem dX7_busy_49 : decode cX7_busy 49 = .ok (.istore_n 2, 1) := by decide +kernel
theorem dX7_busy_50 : decode cX7_busy 50 = .ok (.iinc 3 1, 3) := by decide +kernel
theorem dX7_busy_53 : decode cX7_busy 53 = .ok (.goto (-48), 3) := by decide +kernel
theorem dX7_busy_56 : decode cX7_busy 56 = .ok (.iload_n 2, 1) := by decide +kernel
theorem dX7_busy_57 : decode cX7_busy 57 = .ok (.ireturn, 1) := by decide +kernel
set_option maxRecDepth 20000 in
theorem ggX7_pairOf_X7_isWorker : GoodIn wsX7_pairOf wsX7_isWorker := goodIn_r _ [5, 6, 55, 56, 57, 58, 59, 60, 61, 62, 63, 64, 65, 66, 67, 68, 69, 70, 71, 72] (by decide +kernel) (by decide +kernel)
set_option maxRecDepth 20000 in
theorem gX7_pairOf_X7_isWorker : GoodIn wsX7_pairOf (wsV RX7 75 RX7 yX7_isWorker wsX7_isWorker) := goodIn_app (goodIn_of _ (by decide +kernel)) ggX7_pairOf_X7_isWorker
set_option maxRecDepth 20000 in
theorem ggX7_pairOf_X7_isTask : GoodIn wsX7_pairOf wsX7_isTask := goodIn_r _ [10, 6, 55, 56, 57, 58, 59, 60, 61, 62, 63, 64, 65, 66, 67, 68, 69, 70, 71, 72] (by decide +kernel) (by decide +kernel)
set_option maxRecDepth 20000 in
theorem gX7_pairOf_X7_isTask : GoodIn wsX7_pairOf (wsV RX7 79 RX7 yX7_isTask wsX7_isTask) := goodIn_app (goodIn_of _ (by decide +kernel)) ggX7_pairOf_X7_isTask
set_option maxRecDepth 20000 in
theorem ggX7_pairOf_X7_in : GoodIn wsX7_pairOf wsX7_in := goodIn_r _ [13] (by decide +kernel) (by decide +kernel)
set_option maxRecDepth 20000 in
theorem gX7_pairOf_X7_in : GoodIn wsX7_pairOf (va_wsS RX7 68 yX7_in wsX7_in) := goodIn_app (goodIn_of _ (by decide +kernel)) ggX7_pairOf_X7_in
set_option maxRecDepth 20000 in
theorem ggX7_pairOf_X7_of : GoodIn wsX7_pairOf wsX7_of := goodIn_r _ [17, 6, 55, 56, 57, 58, 59, 60, 61, 62, 63, 64, 65, 66, 67, 68, 69, 70, 71, 72] (by decide +kernel) (by decide +kernel)
set_option maxRecDepth 20000 in
theorem gX7_pairOf_X7_of : GoodIn wsX7_pairOf (wsV RX7 47 RX7 yX7_of wsX7_of) := goodIn_app (goodIn_of _ (by decide +kernel)) ggX7_pairOf_X7_of
set_option maxRecDepth 20000 in
theorem ggX7_pairOf_X7_leastTotal : GoodIn wsX7_pairOf wsX7_leastTotal := goodIn_r _ [21, 22, 23, 24, 4, 25, 6, 26, 27, 28, 29, 30, 31, 32, 33, 34, 35, 36, 37, 38, 39, 40, 41, 42, 14, 15, 16, 17, 55, 56, 57, 58, 59, 60, 61, 62, 63, 64, 65, 66, 67, 68, 69, 70, 71, 72] (by decide +kernel) (by decide +kernel)
set_option maxRecDepth 20000 in
theorem gX7_pairOf_X7_leastTotal : GoodIn wsX7_pairOf (wsV RX7 65 RX7 yX7_leastTotal wsX7_leastTotal) := goodIn_app (goodIn_of _ (by decide +kernel)) ggX7_pairOf_X7_leastTotal
set_option maxRecDepth 20000 in
theorem ggX7_pairOf_X7_busy : GoodIn wsX7_pairOf wsX7_busy := goodIn_r _ [46, 35, 6, 14, 15, 16, 4, 17, 47, 48, 49, 50, 22, 23, 24, 25, 26, 27, 28, 29, 30, 31, 32, 33, 34, 36, 37, 38, 39, 40, 41, 42, 55, 56, 57, 58, 59, 60, 61, 62, 63, 64, 65, 66, 67, 68, 69, 70, 71, 72] (by decide +kernel) (by decide +kernel)
set_option maxRecDepth 20000 in
theorem gX7_pairOf_X7_busy : GoodIn wsX7_pairOf (wsV RX7 111 RX7 yX7_busy wsX7_busy) := goodIn_app (goodIn_of _ (by decide +kernel)) ggX7_pairOf_X7_busy
set_option maxRecDepth 20000 in
theorem ggX7_pairOf_X7_without : GoodIn wsX7_pairOf wsX7_without := goodIn_r _ [54, 40, 41, 18, 19, 20, 4, 21, 22, 23, 24, 25, 6, 26, 27, 28, 29, 30, 31, 32, 33, 34, 35, 36, 37, 38, 39, 42, 14, 15, 16, 17, 55, 56, 57, 58, 59, 60, 61, 62, 63, 64, 65, 66, 67, 68, 69, 70, 71, 72] (by decide +kernel) (by decide +kernel)
set_option maxRecDepth 20000 in
theorem gX7_pairOf_X7_without : GoodIn wsX7_pairOf (wsV RX7 114 RX7 yX7_without wsX7_without) := goodIn_app (goodIn_of _ (by decide +kernel)) ggX7_pairOf_X7_without
set_option maxRecDepth 20000 in
theorem ggX7_pairOf_X7_with : GoodIn wsX7_pairOf wsX7_with := goodIn_r _ [50, 6, 22, 23, 24, 4, 25, 26, 27, 28, 29, 30, 31, 32, 33, 34, 35, 36, 37, 38, 39, 40, 41, 42, 14, 15, 16, 17, 55, 56, 57, 58, 59, 60, 61, 62, 63, 64, 65, 66, 67, 68, 69, 70, 71, 72] (by decide +kernel) (by decide +kernel)
set_option maxRecDepth 20000 in
theorem gX7_pairOf_X7_with : GoodIn wsX7_pairOf (wsV RX7 108 RX7 yX7_with wsX7_with) := goodIn_app (goodIn_of _ (by decide +kernel)) ggX7_pairOf_X7_with
theorem dX7_pairOf_0 : decode cX7_pairOf 0 = .ok (.aload_n 0, 1) := by decide +kernel
theorem dX7_pairOf_1 : decode cX7_pairOf 1 = .ok (.iload_n 1, 1) := by decide +kernel
theorem dX7_pairOf_2 : decode cX7_pairOf 2 = .ok (.invokevirtual 75, 3) := by decide +kernel
theorem dX7_pairOf_5 : decode cX7_pairOf 5 = .ok (.ifCond .eq 25, 3) := by decide +kernel
theorem dX7_pairOf_8 : decode cX7_pairOf 8 = .ok (.iload_n 2, 1) := by decide +kernel
theorem dX7_pairOf_9 : decode cX7_pairOf 9 = .ok (.iconst (-1), 1) := by decide +kernel
theorem dX7_pairOf_10 : decode cX7_pairOf 10 = .ok (.if_icmp .eq 11, 3) := by decide +kernel
theorem dX7_pairOf_13 : decode cX7_pairOf 13 = .ok (.aload_n 0, 1) := by decide +kernel
theorem dX7_pairOf_14 : decode cX7_pairOf 14 = .ok (.iload_n 2, 1) := by decide +kernel
theorem dX7_pairOf_15 : decode cX7_pairOf 15 = .ok (.invokevirtual 79, 3) := by decide +kernel
theorem dX7_pairOf_18 : decode cX7_pairOf 18 = .ok (.ifCond .eq 12, 3) := by decide +kernel
theorem dX7_pairOf_21 : decode cX7_pairOf 21 = .ok (.iload_n 3, 1) := by decide +kernel
theorem dX7_pairOf_22 : decode cX7_pairOf 22 = .ok (.iconst 0, 1) := by decide +kernel
theorem dX7_pairOf_23 : decode cX7_pairOf 23 = .ok (.iconst 2, 1) := by decide +kernel
theorem dX7_pairOf_24 : decode cX7_pairOf 24 = .ok (.invokestatic 68, 3) := by decide +kernel
theorem dX7_pairOf_27 : decode cX7_pairOf 27 = .ok (.ifCond .ne 5, 3) := by decide +kernel
theorem dX7_pairOf_30 : decode cX7_pairOf 30 = .ok (.iconst (-1), 1) := by decide +kernel
theorem dX7_pairOf_31 : decode cX7_pairOf 31 = .ok (.ireturn, 1) := by decide +kernel
theorem dX7_pairOf_32 : decode cX7_pairOf 32 = .ok (.iload_n 2, 1) := by decide +kernel
theorem dX7_pairOf_33 : decode cX7_pairOf 33 = .ok (.ifCond .lt 15, 3) := by decide +kernel
theorem dX7_pairOf_36 : decode cX7_pairOf 36 = .ok (.aload_n 0, 1) := by decide +kernel
theorem dX7_pairOf_37 : decode cX7_pairOf 37 = .ok (.iload_n 1, 1) := by decide +kernel
theorem dX7_pairOf_38 : decode cX7_pairOf 38 = .ok (.iload_n 2, 1) := by decide +kernel
theorem dX7_pairOf_39 : decode cX7_pairOf 39 = .ok (.invokevirtual 47, 3) := by decide +kernel
theorem dX7_pairOf_42 : decode cX7_pairOf 42 = .ok (.ifCond .ge 6, 3) := by decide +kernel
theorem dX7_pairOf_45 : decode cX7_pairOf 45 = .ok (.bipush (-4), 2) := by decide +kernel
theorem dX7_pairOf_47 : decode cX7_pairOf 47 = .ok (.ireturn, 1) := by decide +kernel
theorem dX7_pairOf_48 : decode cX7_pairOf 48 = .ok (.aload_n 0, 1) := by decide +kernel
theorem dX7_pairOf_49 : decode cX7_pairOf 49 = .ok (.invokevirtual 65, 3) := by decide +kernel
theorem dX7_pairOf_52 : decode cX7_pairOf 52 = .ok (.istore 4, 2) := by decide +kernel
theorem dX7_pairOf_54 : decode cX7_pairOf 54 = .ok (.iload_n 3, 1) := by decide +kernel
theorem dX7_pairOf_55 : decode cX7_pairOf 55 = .ok (.iconst 1, 1) := by decide +kernel
theorem dX7_pairOf_56 : decode cX7_pairOf 56 = .ok (.if_icmp .ne 32, 3) := by decide +kernel
theorem dX7_pairOf_59 : decode cX7_pairOf 59 = .ok (.iload_n 2, 1) := by decide +kernel
theorem dX7_pairOf_60 : decode cX7_pairOf 60 = .ok (.ifCond .ge 11, 3) := by decide +kernel
theorem dX7_pairOf_63 : decode cX7_pairOf 63 = .ok (.aload_n 0, 1) := by decide +kernel
theorem dX7_pairOf_64 : decode cX7_pairOf 64 = .ok (.iload_n 1, 1) := by decide +kernel
theorem dX7_pairOf_65 : decode cX7_pairOf 65 = .ok (.invokevirtual 111, 3) := by decide +kernel
theorem dX7_pairOf_68 : decode cX7_pairOf 68 = .ok (.goto 9, 3) := by decide +kernel
theorem dX7_pairOf_71 : decode cX7_pairOf 71 = .ok (.aload_n 0, 1) := by decide +kernel
theorem dX7_pairOf_72 : decode cX7_pairOf 72 = .ok (.iload_n 1, 1) := by decide +kernel
theorem dX7_pairOf_73 : decode cX7_pairOf 73 = .ok (.iload_n 2, 1) := by decide +kernel
theorem dX7_pairOf_74 : decode cX7_pairOf 74 = .ok (.invokevirtual 114, 3) := by decide +kernel
theorem dX7_pairOf_77 : decode cX7_pairOf 77 = .ok (.iload 4, 2) := by decide +kernel
theorem dX7_pairOf_79 : decode cX7_pairOf 79 = .ok (.if_icmp .le 7, 3) := by decide +kernel
theorem dX7_pairOf_82 : decode cX7_pairOf 82 = .ok (.iconst 1, 1) := by decide +kernel
theorem dX7_pairOf_83 : decode cX7_pairOf 83 = .ok (.goto 4, 3) := by decide +kernel
theorem dX7_pairOf_86 : decode cX7_pairOf 86 = .ok (.iconst 0, 1) := by decide +kernel
theorem dX7_pairOf_87 : decode cX7_pairOf 87 = .ok (.ireturn, 1) := by decide +kernel
theorem dX7_pairOf_88 : decode cX7_pairOf 88 = .ok (.aload_n 0, 1) := by decide +kernel
theorem dX7_pairOf_89 : decode cX7_pairOf 89 = .ok (.iload_n 1, 1) := by decide +kernel
theorem dX7_pairOf_90 : decode cX7_pairOf 90 = .ok (.iload_n 2, 1) := by decide +kernel
theorem dX7_pairOf_91 : decode cX7_pairOf 91 = .ok (.invokevirtual 108, 3) := by decide +kernel
theorem dX7_pairOf_94 : decode cX7_pairOf 94 = .ok (.iload 4, 2) := by decide +kernel
theorem dX7_pairOf_96 : decode cX7_pairOf 96 = .ok (.isub, 1) := by decide +kernel
theorem dX7_pairOf_97 : decode cX7_pairOf 97 = .ok (.istore 5, 2) := by decide +kernel
theorem dX7_pairOf_99 : decode cX7_pairOf 99 = .ok (.iload_n 3, 1) := by decide +kernel
theorem dX7_pairOf_100 : decode cX7_pairOf 100 = .ok (.iconst 2, 1) := by decide +kernel
theorem dX7_pairOf_101 : decode cX7_pairOf 101 = .ok (.if_icmp .ne 8, 3) := by decide +kernel
theorem dX7_pairOf_104 : decode cX7_pairOf 104 = .ok (.iload 5, 2) := by decide +kernel
theorem dX7_pairOf_106 : decode cX7_pairOf 106 = .ok (.goto 13, 3) := by decide +kernel
theorem dX7_pairOf_109 : decode cX7_pairOf 109 = .ok (.iload 5, 2) := by decide +kernel
theorem dX7_pairOf_111 : decode cX7_pairOf 111 = .ok (.ifCond .ne 7, 3) := by decide +kernel
theorem dX7_pairOf_114 : decode cX7_pairOf 114 = .ok (.iconst 1, 1) := by decide +kernel
theorem dX7_pairOf_115 : decode cX7_pairOf 115 = .ok (.goto 4, 3) := by decide +kernel
theorem dX7_pairOf_118 : decode cX7_pairOf 118 = .ok (.iconst 0, 1) := by decide +kernel
theorem dX7_pairOf_119 : decode cX7_pairOf 119 = .ok (.ireturn, 1) := by decide +kernel
set_option maxRecDepth 20000 in
theorem ggX7_roomOf_X7_without : GoodIn wsX7_roomOf wsX7_without := goodIn_r _ [6, 7, 8, 9, 10, 11, 5, 12, 13, 14, 15, 16, 17, 18, 19, 20, 21, 22, 23, 24, 25, 26, 27, 28, 29, 30, 31, 32, 33, 34, 35, 36, 37, 38, 39, 40, 41, 42, 43, 44, 45, 46, 47, 48, 49, 50, 51, 52, 53, 54] (by decide +kernel) (by decide +kernel)
set_option maxRecDepth 20000 in
theorem gX7_roomOf_X7_without : GoodIn wsX7_roomOf (wsV RX7 114 RX7 yX7_without wsX7_without) := goodIn_app (goodIn_of _ (by decide +kernel)) ggX7_roomOf_X7_without
set_option maxRecDepth 20000 in
theorem ggX7_roomOf_X7_leastTotal : GoodIn wsX7_roomOf wsX7_leastTotal := goodIn_r _ [12, 13, 14, 15, 5, 16, 17, 18, 19, 20, 21, 22, 23, 24, 25, 26, 27, 28, 29, 30, 31, 7, 8, 32, 33, 34, 35, 36, 37, 38, 39, 40, 41, 42, 43, 44, 45, 46, 47, 48, 49, 50, 51, 52, 53, 54] (by decide +kernel) (by decide +kernel)
set_option maxRecDepth 20000 in
theorem gX7_roomOf_X7_leastTotal : GoodIn wsX7_roomOf (wsV RX7 65 RX7 yX7_leastTotal wsX7_leastTotal) := goodIn_app (goodIn_of _ (by decide +kernel)) ggX7_roomOf_X7_leastTotal
theorem dX7_roomOf_0 : decode cX7_roomOf 0 = .ok (.aload_n 0, 1) := by decide +kernel
theorem dX7_roomOf_1 : decode cX7_roomOf 1 = .ok (.iload_n 1, 1) := by decide +kernel
theorem dX7_roomOf_2 : decode cX7_roomOf 2 = .ok (.aload_n 0, 1) := by decide +kernel
theorem dX7_roomOf_3 : decode cX7_roomOf 3 = .ok (.getfield 32, 3) := by decide +kernel
theorem dX7_roomOf_6 : decode cX7_roomOf 6 = .ok (.iload_n 1, 1) := by decide +kernel
theorem dX7_roomOf_7 : decode cX7_roomOf 7 = .ok (.iaload, 1) := by decide +kernel
theorem dX7_roomOf_8 : decode cX7_roomOf 8 = .ok (.invokevirtual 114, 3) := by decide +kernel
theorem dX7_roomOf_11 : decode cX7_roomOf 11 = .ok (.aload_n 0, 1) := by decide +kernel
theorem dX7_roomOf_12 : decode cX7_roomOf 12 = .ok (.invokevirtual 65, 3) := by decide +kernel
theorem dX7_roomOf_15 : decode cX7_roomOf 15 = .ok (.isub, 1) := by decide +kernel
theorem dX7_roomOf_16 : decode cX7_roomOf 16 = .ok (.ireturn, 1) := by decide +kernel
set_option maxRecDepth 20000 in
theorem ggX7_room_X7_isWorker : GoodIn wsX7_room wsX7_isWorker := goodIn_r _ [6, 7, 49, 50, 51, 52, 53, 54, 55, 56, 57, 58, 59, 60, 61, 62, 63, 64, 65, 66] (by decide +kernel) (by decide +kernel)
set_option maxRecDepth 20000 in
theorem gX7_room_X7_isWorker : GoodIn wsX7_room (wsV RX7 75 RX7 yX7_isWorker wsX7_isWorker) := goodIn_app (goodIn_of _ (by decide +kernel)) ggX7_room_X7_isWorker
set_option maxRecDepth 20000 in
theorem ggX7_room_X7_plans : GoodIn wsX7_room wsX7_plans := goodIn_r _ [11, 7, 1, 12, 13, 14, 5, 15, 16, 17, 18, 19, 20, 21, 22, 23, 24, 25, 26, 27, 28, 29, 30, 31, 32, 33, 34, 35, 36, 37, 38, 39, 40, 49, 50, 51, 52, 53, 54, 55, 56, 57, 58, 59, 60, 61, 62, 63, 64, 65, 66] (by decide +kernel) (by decide +kernel)
set_option maxRecDepth 20000 in
theorem gX7_room_X7_plans : GoodIn wsX7_room (wsV RX7 90 RX7 yX7_plans wsX7_plans) := goodIn_app (goodIn_of _ (by decide +kernel)) ggX7_room_X7_plans
set_option maxRecDepth 20000 in
theorem ggX7_room_X7_roomOf : GoodIn wsX7_room wsX7_roomOf := goodIn_r _ [44, 1, 45, 46, 47, 5, 48, 34, 35, 12, 13, 14, 15, 16, 17, 18, 19, 7, 20, 21, 22, 23, 24, 25, 26, 27, 28, 29, 30, 31, 32, 33, 36, 37, 38, 39, 40, 49, 50, 51, 52, 53, 54, 55, 56, 57, 58, 59, 60, 61, 62, 63, 64, 65, 66] (by decide +kernel) (by decide +kernel)
set_option maxRecDepth 20000 in
theorem gX7_room_X7_roomOf : GoodIn wsX7_room (wsV RX7 117 RX7 yX7_roomOf wsX7_roomOf) := goodIn_app (goodIn_of _ (by decide +kernel)) ggX7_room_X7_roomOf
theorem dX7_room_0 : decode cX7_room 0 = .ok (.aload_n 0, 1) := by decide +kernel
theorem dX7_room_1 : decode cX7_room 1 = .ok (.iload_n 1, 1) := by decide +kernel
theorem dX7_room_2 : decode cX7_room 2 = .ok (.invokevirtual 75, 3) := by decide +kernel
theorem dX7_room_5 : decode cX7_room 5 = .ok (.ifCond .ne 5, 3) := by decide +kernel
theorem dX7_room_8 : decode cX7_room 8 = .ok (.iconst (-1), 1) := by decide +kernel
theorem dX7_room_9 : decode cX7_room 9 = .ok (.ireturn, 1) := by decide +kernel
theorem dX7_room_10 : decode cX7_room 10 = .ok (.aload_n 0, 1) := by decide +kernel
theorem dX7_room_11 : decode cX7_room 11 = .ok (.invokevirtual 90, 3) := by decide +kernel
theorem dX7_room_14 : decode cX7_room 14 = .ok (.aload_n 0, 1) := by decide +kernel
theorem dX7_room_15 : decode cX7_room 15 = .ok (.getfield 32, 3) := by decide +kernel
theorem dX7_room_18 : decode cX7_room 18 = .ok (.iload_n 1, 1) := by decide +kernel
theorem dX7_room_19 : decode cX7_room 19 = .ok (.iaload, 1) := by decide +kernel
theorem dX7_room_20 : decode cX7_room 20 = .ok (.ifCond .ge 8, 3) := by decide +kernel
theorem dX7_room_23 : decode cX7_room 23 = .ok (.bipush (-4), 2) := by decide +kernel
theorem dX7_room_25 : decode cX7_room 25 = .ok (.goto 8, 3) := by decide +kernel
theorem dX7_room_28 : decode cX7_room 28 = .ok (.aload_n 0, 1) := by decide +kernel
theorem dX7_room_29 : decode cX7_room 29 = .ok (.iload_n 1, 1) := by decide +kernel
theorem dX7_room_30 : decode cX7_room 30 = .ok (.invokevirtual 117, 3) := by decide +kernel
theorem dX7_room_33 : decode cX7_room 33 = .ok (.ireturn, 1) := by decide +kernel
set_option maxRecDepth 20000 in
theorem ggX7_dearest_X7_in : GoodIn wsX7_dearest wsX7_in := goodIn_r _ [6] (by decide +kernel) (by decide +kernel)
set_option maxRecDepth 20000 in
theorem gX7_dearest_X7_in : GoodIn wsX7_dearest (va_wsS RX7 68 yX7_in wsX7_in) := goodIn_app (goodIn_of _ (by decide +kernel)) ggX7_dearest_X7_in
set_option maxRecDepth 20000 in
theorem ggX7_dearest_X7_plans : GoodIn wsX7_dearest wsX7_plans := goodIn_r _ [10, 1, 2, 11, 12, 13, 5, 14, 15, 16, 17, 18, 19, 20, 21, 22, 23, 24, 25, 26, 27, 28, 29, 30, 31, 32, 33, 34, 35, 36, 37, 38, 39, 48, 49, 50, 51, 52, 53, 54, 55, 56, 57, 58, 59, 60, 61, 62, 63, 64, 65] (by decide +kernel) (by decide +kernel)
set_option maxRecDepth 20000 in
theorem gX7_dearest_X7_plans : GoodIn wsX7_dearest (wsV RX7 90 RX7 yX7_plans wsX7_plans) := goodIn_app (goodIn_of _ (by decide +kernel)) ggX7_dearest_X7_plans
set_option maxRecDepth 20000 in
theorem ggX7_dearest_X7_roomOf : GoodIn wsX7_dearest wsX7_roomOf := goodIn_r _ [43, 2, 44, 45, 46, 5, 47, 33, 34, 11, 12, 13, 14, 15, 16, 17, 18, 1, 19, 20, 21, 22, 23, 24, 25, 26, 27, 28, 29, 30, 31, 32, 35, 36, 37, 38, 39, 48, 49, 50, 51, 52, 53, 54, 55, 56, 57, 58, 59, 60, 61, 62, 63, 64, 65] (by decide +kernel) (by decide +kernel)
set_option maxRecDepth 20000 in
theorem gX7_dearest_X7_roomOf : GoodIn wsX7_dearest (wsV RX7 117 RX7 yX7_roomOf wsX7_roomOf) := goodIn_app (goodIn_of _ (by decide +kernel)) ggX7_dearest_X7_roomOf
theorem dX7_dearest_0 : decode cX7_dearest 0 = .ok (.iload_n 1, 1) := by decide +kernel
theorem dX7_dearest_1 : decode cX7_dearest 1 = .ok (.iconst 0, 1) := by decide +kernel
theorem dX7_dearest_2 : decode cX7_dearest 2 = .ok (.iconst 2, 1) := by decide +kernel
theorem dX7_dearest_3 : decode cX7_dearest 3 = .ok (.invokestatic 68, 3) := by decide +kernel
theorem dX7_dearest_6 : decode cX7_dearest 6 = .ok (.ifCond .ne 5, 3) := by decide +kernel
theorem dX7_dearest_9 : decode cX7_dearest 9 = .ok (.iconst (-1), 1) := by decide +kernel
theorem dX7_dearest_10 : decode cX7_dearest 10 = .ok (.ireturn, 1) := by decide +kernel
theorem dX7_dearest_11 : decode cX7_dearest 11 = .ok (.aload_n 0, 1) := by decide +kernel
theorem dX7_dearest_12 : decode cX7_dearest 12 = .ok (.invokevirtual 90, 3) := by decide +kernel
theorem dX7_dearest_15 : decode cX7_dearest 15 = .ok (.bipush (-4), 2) := by decide +kernel
theorem dX7_dearest_17 : decode cX7_dearest 17 = .ok (.istore_n 2, 1) := by decide +kernel
theorem dX7_dearest_18 : decode cX7_dearest 18 = .ok (.iconst (-1), 1) := by decide +kernel
theorem dX7_dearest_19 : decode cX7_dearest 19 = .ok (.istore_n 3, 1) := by decide +kernel
theorem dX7_dearest_20 : decode cX7_dearest 20 = .ok (.iconst 0, 1) := by decide +kernel
theorem dX7_dearest_21 : decode cX7_dearest 21 = .ok (.istore 4, 2) := by decide +kernel
theorem dX7_dearest_23 : decode cX7_dearest 23 = .ok (.iload 4, 2) := by decide +kernel
theorem dX7_dearest_25 : decode cX7_dearest 25 = .ok (.aload_n 0, 1) := by decide +kernel
theorem dX7_dearest_26 : decode cX7_dearest 26 = .ok (.getfield 7, 3) := by decide +kernel
theorem dX7_dearest_29 : decode cX7_dearest 29 = .ok (.iconst 0, 1) := by decide +kernel
theorem dX7_dearest_30 : decode cX7_dearest 30 = .ok (.iaload, 1) := by decide +kernel
theorem dX7_dearest_31 : decode cX7_dearest 31 = .ok (.if_icmp .ge 57, 3) := by decide +kernel
theorem dX7_dearest_34 : decode cX7_dearest 34 = .ok (.aload_n 0, 1) := by decide +kernel
theorem dX7_dearest_35 : decode cX7_dearest 35 = .ok (.getfield 32, 3) := by decide +kernel
theorem dX7_dearest_38 : decode cX7_dearest 38 = .ok (.iload 4, 2) := by decide +kernel
theorem dX7_dearest_40 : decode cX7_dearest 40 = .ok (.iaload, 1) := by decide +kernel
theorem dX7_dearest_41 : decode cX7_dearest 41 = .ok (.ifCond .ge 7, 3) := by decide +kernel
theorem dX7_dearest_44 : decode cX7_dearest 44 = .ok (.iconst (-1), 1) := by decide +kernel
theorem dX7_dearest_45 : decode cX7_dearest 45 = .ok (.goto 9, 3) := by decide +kernel
theorem dX7_dearest_48 : decode cX7_dearest 48 = .ok (.aload_n 0, 1) := by decide +kernel
theorem dX7_dearest_49 : decode cX7_dearest 49 = .ok (.iload 4, 2) := by decide +kernel
theorem dX7_dearest_51 : decode cX7_dearest 51 = .ok (.invokevirtual 117, 3) := by decide +kernel
theorem dX7_dearest_54 : decode cX7_dearest 54 = .ok (.istore 5, 2) := by decide +kernel
theorem dX7_dearest_56 : decode cX7_dearest 56 = .ok (.iload 5, 2) := by decide +kernel
theorem dX7_dearest_58 : decode cX7_dearest 58 = .ok (.iload_n 3, 1) := by decide +kernel
theorem dX7_dearest_59 : decode cX7_dearest 59 = .ok (.if_icmp .le 8, 3) := by decide +kernel
theorem dX7_dearest_62 : decode cX7_dearest 62 = .ok (.iload 4, 2) := by decide +kernel
theorem dX7_dearest_64 : decode cX7_dearest 64 = .ok (.goto 4, 3) := by decide +kernel
theorem dX7_dearest_67 : decode cX7_dearest 67 = .ok (.iload_n 2, 1) := by decide +kernel
theorem dX7_dearest_68 : decode cX7_dearest 68 = .ok (.istore_n 2, 1) := by decide +kernel
theorem dX7_dearest_69 : decode cX7_dearest 69 = .ok (.iload 5, 2) := by decide +kernel
theorem dX7_dearest_71 : decode cX7_dearest 71 = .ok (.iload_n 3, 1) := by decide +kernel
theorem dX7_dearest_72 : decode cX7_dearest 72 = .ok (.if_icmp .le 8, 3) := by decide +kernel
theorem dX7_dearest_75 : decode cX7_dearest 75 = .ok (.iload 5, 2) := by decide +kernel
theorem dX7_dearest_77 : decode cX7_dearest 77 = .ok (.goto 4, 3) := by decide +kernel
theorem dX7_dearest_80 : decode cX7_dearest 80 = .ok (.iload_n 3, 1) := by decide +kernel
theorem dX7_dearest_81 : decode cX7_dearest 81 = .ok (.istore_n 3, 1) := by decide +kernel
theorem dX7_dearest_82 : decode cX7_dearest 82 = .ok (.iinc 4 1, 3) := by decide +kernel
theorem dX7_dearest_85 : decode cX7_dearest 85 = .ok (.goto (-62), 3) := by decide +kernel
theorem dX7_dearest_88 : decode cX7_dearest 88 = .ok (.iload_n 2, 1) := by decide +kernel
theorem dX7_dearest_89 : decode cX7_dearest 89 = .ok (.ifCond .lt 7, 3) := by decide +kernel
theorem dX7_dearest_92 : decode cX7_dearest 92 = .ok (.iload_n 1, 1) := by decide +kernel
theorem dX7_dearest_93 : decode cX7_dearest 93 = .ok (.ifCond .ne 7, 3) := by decide +kernel
theorem dX7_dearest_96 : decode cX7_dearest 96 = .ok (.iload_n 2, 1) := by decide +kernel
theorem dX7_dearest_97 : decode cX7_dearest 97 = .ok (.goto 18, 3) := by decide +kernel
theorem dX7_dearest_100 : decode cX7_dearest 100 = .ok (.iload_n 1, 1) := by decide +kernel
theorem dX7_dearest_101 : decode cX7_dearest 101 = .ok (.iconst 1, 1) := by decide +kernel
theorem dX7_dearest_102 : decode cX7_dearest 102 = .ok (.if_icmp .ne 12, 3) := by decide +kernel
theorem dX7_dearest_105 : decode cX7_dearest 105 = .ok (.aload_n 0, 1) := by decide +kernel
theorem dX7_dearest_106 : decode cX7_dearest 106 = .ok (.getfield 32, 3) := by decide +kernel
theorem dX7_dearest_109 : decode cX7_dearest 109 = .ok (.iload_n 2, 1) := by decide +kernel
theorem dX7_dearest_110 : decode cX7_dearest 110 = .ok (.iaload, 1) := by decide +kernel
theorem dX7_dearest_111 : decode cX7_dearest 111 = .ok (.goto 4, 3) := by decide +kernel
theorem dX7_dearest_114 : decode cX7_dearest 114 = .ok (.iload_n 3, 1) := by decide +kernel
theorem dX7_dearest_115 : decode cX7_dearest 115 = .ok (.ireturn, 1) := by decide +kernel
set_option maxRecDepth 20000 in
theorem ggX7_pairs_X7_of : GoodIn wsX7_pairs wsX7_of := goodIn_r _ [6, 1, 7, 8, 9, 10, 11, 12, 13, 14, 15, 16, 17, 18, 19, 20, 21, 22, 23, 24] (by decide +kernel) (by decide +kernel)
set_option maxRecDepth 20000 in
theorem gX7_pairs_X7_of : GoodIn wsX7_pairs (wsV RX7 47 RX7 yX7_of wsX7_of) := goodIn_app (goodIn_of _ (by decide +kernel)) ggX7_pairs_X7_of
theorem dX7_pairs_0 : decode cX7_pairs 0 = .ok (.iconst 0, 1) := by decide +kernel
theorem dX7_pairs_1 : decode cX7_pairs 1 = .ok (.istore_n 1, 1) := by decide +kernel
theorem dX7_pairs_2 : decode cX7_pairs 2 = .ok (.iconst 0, 1) := by decide +kernel
theorem dX7_pairs_3 : decode cX7_pairs 3 = .ok (.istore_n 2, 1) := by decide +kernel
theorem dX7_pairs_4 : decode cX7_pairs 4 = .ok (.iload_n 2, 1) := by decide +kernel
theorem dX7_pairs_5 : decode cX7_pairs 5 = .ok (.aload_n 0, 1) := by decide +kernel
theorem dX7_pairs_6 : decode cX7_pairs 6 = .ok (.getfield 7, 3) := by decide +kernel
theorem dX7_pairs_9 : decode cX7_pairs 9 = .ok (.iconst 0, 1) := by decide +kernel
theorem dX7_pairs_10 : decode cX7_pairs 10 = .ok (.iaload, 1) := by decide +kernel
theorem dX7_pairs_11 : decode cX7_pairs 11 = .ok (.if_icmp .ge 44, 3) := by decide +kernel
theorem dX7_pairs_14 : decode cX7_pairs 14 = .ok (.iconst 0, 1) := by decide +kernel
theorem dX7_pairs_15 : decode cX7_pairs 15 = .ok (.istore_n 3, 1) := by decide +kernel
theorem dX7_pairs_16 : decode cX7_pairs 16 = .ok (.iload_n 3, 1) := by decide +kernel
theorem dX7_pairs_17 : decode cX7_pairs 17 = .ok (.aload_n 0, 1) := by decide +kernel
theorem dX7_pairs_18 : decode cX7_pairs 18 = .ok (.getfield 7, 3) := by decide +kernel
theorem dX7_pairs_21 : decode cX7_pairs 21 = .ok (.iconst 1, 1) := by decide +kernel
theorem dX7_pairs_22 : decode cX7_pairs 22 = .ok (.iaload, 1) := by decide +kernel
theorem dX7_pairs_23 : decode cX7_pairs 23 = .ok (.if_icmp .ge 26, 3) := by decide +kernel
theorem dX7_pairs_26 : decode cX7_pairs 26 = .ok (.iload_n 1, 1) := by decide +kernel
theorem dX7_pairs_27 : decode cX7_pairs 27 = .ok (.aload_n 0, 1) := by decide +kernel
theorem dX7_pairs_28 : decode cX7_pairs 28 = .ok (.iload_n 2, 1) := by decide +kernel
theorem dX7_pairs_29 : decode cX7_pairs 29 = .ok (.iload_n 3, 1) := by decide +kernel
theorem dX7_pairs_30 : decode cX7_pairs 30 = .ok (.invokevirtual 47, 3) := by decide +kernel
theorem dX7_pairs_33 : decode cX7_pairs 33 = .ok (.ifCond .lt 7, 3) := by decide +kernel
theorem dX7_pairs_36 : decode cX7_pairs 36 = .ok (.iconst 1, 1) := by decide +kernel
theorem dX7_pairs_37 : decode cX7_pairs 37 = .ok (.goto 4, 3) := by decide +kernel
theorem dX7_pairs_40 : decode cX7_pairs 40 = .ok (.iconst 0, 1) := by decide +kernel
theorem dX7_pairs_41 : decode cX7_pairs 41 = .ok (.iadd, 1) := by decide +kernel
theorem dX7_pairs_42 : decode cX7_pairs 42 = .ok (.istore_n 1, 1) := by decide +kernel
theorem dX7_pairs_43 : decode cX7_pairs 43 = .ok (.iinc 3 1, 3) := by decide +kernel
theorem dX7_pairs_46 : decode cX7_pairs 46 = .ok (.goto (-30), 3) := by decide +kernel
theorem dX7_pairs_49 : decode cX7_pairs 49 = .ok (.iinc 2 1, 3) := by decide +kernel
theorem dX7_pairs_52 : decode cX7_pairs 52 = .ok (.goto (-48), 3) := by decide +kernel
theorem dX7_pairs_55 : decode cX7_pairs 55 = .ok (.iload_n 1, 1) := by decide +kernel
theorem dX7_pairs_56 : decode cX7_pairs 56 = .ok (.ireturn, 1) := by decide +kernel
set_option maxRecDepth 20000 in
theorem ggX7_paired_X7_plans : GoodIn wsX7_paired wsX7_plans := goodIn_r _ [7, 1, 2, 8, 9, 10, 6, 11, 12, 13, 14, 15, 16, 17, 18, 19, 20, 21, 22, 23, 24, 25, 26, 27, 28, 29, 30, 31, 32, 33, 34, 35, 36, 37, 38, 39, 40, 41, 42, 43, 44, 45, 46, 47, 48, 49, 50, 51, 52, 53, 54] (by decide +kernel) (by decide +kernel)
set_option maxRecDepth 20000 in
theorem gX7_paired_X7_plans : GoodIn wsX7_paired (wsV RX7 90 RX7 yX7_plans wsX7_plans) := goodIn_app (goodIn_of _ (by decide +kernel)) ggX7_paired_X7_plans
theorem dX7_paired_0 : decode cX7_paired 0 = .ok (.aload_n 0, 1) := by decide +kernel
theorem dX7_paired_1 : decode cX7_paired 1 = .ok (.invokevirtual 90, 3) := by decide +kernel
theorem dX7_paired_4 : decode cX7_paired 4 = .ok (.iconst 0, 1) := by decide +kernel
theorem dX7_paired_5 : decode cX7_paired 5 = .ok (.istore_n 1, 1) := by decide +kernel
theorem dX7_paired_6 : decode cX7_paired 6 = .ok (.iconst 0, 1) := by decide +kernel
theorem dX7_paired_7 : decode cX7_paired 7 = .ok (.istore_n 2, 1) := by decide +kernel
theorem dX7_paired_8 : decode cX7_paired 8 = .ok (.iload_n 2, 1) := by decide +kernel
theorem dX7_paired_9 : decode cX7_paired 9 = .ok (.aload_n 0, 1) := by decide +kernel
theorem dX7_paired_10 : decode cX7_paired 10 = .ok (.getfield 7, 3) := by decide +kernel
theorem dX7_paired_13 : decode cX7_paired 13 = .ok (.iconst 0, 1) := by decide +kernel
theorem dX7_paired_14 : decode cX7_paired 14 = .ok (.iaload, 1) := by decide +kernel
theorem dX7_paired_15 : decode cX7_paired 15 = .ok (.if_icmp .ge 26, 3) := by decide +kernel
theorem dX7_paired_18 : decode cX7_paired 18 = .ok (.iload_n 1, 1) := by decide +kernel
theorem dX7_paired_19 : decode cX7_paired 19 = .ok (.aload_n 0, 1) := by decide +kernel
theorem dX7_paired_20 : decode cX7_paired 20 = .ok (.getfield 32, 3) := by decide +kernel
theorem dX7_paired_23 : decode cX7_paired 23 = .ok (.iload_n 2, 1) := by decide +kernel
theorem dX7_paired_24 : decode cX7_paired 24 = .ok (.iaload, 1) := by decide +kernel
theorem dX7_paired_25 : decode cX7_paired 25 = .ok (.ifCond .lt 7, 3) := by decide +kernel
theorem dX7_paired_28 : decode cX7_paired 28 = .ok (.iconst 1, 1) := by decide +kernel
theorem dX7_paired_29 : decode cX7_paired 29 = .ok (.goto 4, 3) := by decide +kernel
theorem dX7_paired_32 : decode cX7_paired 32 = .ok (.iconst 0, 1) := by decide +kernel
theorem dX7_paired_33 : decode cX7_paired 33 = .ok (.iadd, 1) := by decide +kernel
theorem dX7_paired_34 : decode cX7_paired 34 = .ok (.istore_n 1, 1) := by decide +kernel
theorem dX7_paired_35 : decode cX7_paired 35 = .ok (.iinc 2 1, 3) := by decide +kernel
theorem dX7_paired_38 : decode cX7_paired 38 = .ok (.goto (-30), 3) := by decide +kernel
theorem dX7_paired_41 : decode cX7_paired 41 = .ok (.iload_n 1, 1) := by decide +kernel
theorem dX7_paired_42 : decode cX7_paired 42 = .ok (.ireturn, 1) := by decide +kernel
set_option maxRecDepth 20000 in
theorem ggX7_tightAll_X7_pricesAll : GoodIn wsX7_tightAll wsX7_pricesAll := goodIn_r _ [6, 1, 7, 8, 9, 10, 5, 11, 12, 13, 14, 15, 16, 17, 18, 19, 20, 21, 22, 23, 24, 25, 26, 27, 28, 29, 30, 31, 32, 33, 34, 35, 36, 37, 38, 39, 40, 49, 50, 51, 52, 53, 54, 55, 56, 57, 58, 59, 60, 61, 62, 63, 64, 65, 66] (by decide +kernel) (by decide +kernel)
set_option maxRecDepth 20000 in
theorem gX7_tightAll_X7_pricesAll : GoodIn wsX7_tightAll (wsV RX7 102 RX7 yX7_pricesAll wsX7_pricesAll) := goodIn_app (goodIn_of _ (by decide +kernel)) ggX7_tightAll_X7_pricesAll
set_option maxRecDepth 20000 in
theorem ggX7_tightAll_X7_tight : GoodIn wsX7_tightAll wsX7_tight := goodIn_r _ [44, 1, 7, 45, 46, 47, 5, 48, 33, 34, 35, 36, 49, 50, 51, 52, 53, 54, 55, 56, 57, 58, 59, 60, 61, 62, 63, 64, 65, 66] (by decide +kernel) (by decide +kernel)
set_option maxRecDepth 20000 in
theorem gX7_tightAll_X7_tight : GoodIn wsX7_tightAll (wsV RX7 105 RX7 yX7_tight wsX7_tight) := goodIn_app (goodIn_of _ (by decide +kernel)) ggX7_tightAll_X7_tight
theorem dX7_tightAll_0 : decode cX7_tightAll 0 = .ok (.aload_n 0, 1) := by decide +kernel
theorem dX7_tightAll_1 : decode cX7_tightAll 1 = .ok (.invokevirtual 102, 3) := by decide +kernel
theorem dX7_tightAll_4 : decode cX7_tightAll 4 = .ok (.ifCond .ge 8, 3) := by decide +kernel
theorem dX7_tightAll_7 : decode cX7_tightAll 7 = .ok (.bipush (-4), 2) := by decide +kernel
theorem dX7_tightAll_9 : decode cX7_tightAll 9 = .ok (.goto 4, 3) := by decide +kernel
theorem dX7_tightAll_12 : decode cX7_tightAll 12 = .ok (.iconst 0, 1) := by decide +kernel
theorem dX7_tightAll_13 : decode cX7_tightAll 13 = .ok (.istore_n 1, 1) := by decide +kernel
theorem dX7_tightAll_14 : decode cX7_tightAll 14 = .ok (.iconst 0, 1) := by decide +kernel
theorem dX7_tightAll_15 : decode cX7_tightAll 15 = .ok (.istore_n 2, 1) := by decide +kernel
theorem dX7_tightAll_16 : decode cX7_tightAll 16 = .ok (.iload_n 2, 1) := by decide +kernel
theorem dX7_tightAll_17 : decode cX7_tightAll 17 = .ok (.aload_n 0, 1) := by decide +kernel
theorem dX7_tightAll_18 : decode cX7_tightAll 18 = .ok (.getfield 7, 3) := by decide +kernel
theorem dX7_tightAll_21 : decode cX7_tightAll 21 = .ok (.iconst 0, 1) := by decide +kernel
theorem dX7_tightAll_22 : decode cX7_tightAll 22 = .ok (.iaload, 1) := by decide +kernel
theorem dX7_tightAll_23 : decode cX7_tightAll 23 = .ok (.if_icmp .ge 40, 3) := by decide +kernel
theorem dX7_tightAll_26 : decode cX7_tightAll 26 = .ok (.aload_n 0, 1) := by decide +kernel
theorem dX7_tightAll_27 : decode cX7_tightAll 27 = .ok (.iload_n 2, 1) := by decide +kernel
theorem dX7_tightAll_28 : decode cX7_tightAll 28 = .ok (.invokevirtual 105, 3) := by decide +kernel
theorem dX7_tightAll_31 : decode cX7_tightAll 31 = .ok (.istore_n 3, 1) := by decide +kernel
theorem dX7_tightAll_32 : decode cX7_tightAll 32 = .ok (.iconst 0, 1) := by decide +kernel
theorem dX7_tightAll_33 : decode cX7_tightAll 33 = .ok (.istore 4, 2) := by decide +kernel
theorem dX7_tightAll_35 : decode cX7_tightAll 35 = .ok (.iload 4, 2) := by decide +kernel
theorem dX7_tightAll_37 : decode cX7_tightAll 37 = .ok (.bipush 7, 2) := by decide +kernel
theorem dX7_tightAll_39 : decode cX7_tightAll 39 = .ok (.if_icmp .ge 18, 3) := by decide +kernel
theorem dX7_tightAll_42 : decode cX7_tightAll 42 = .ok (.iload_n 1, 1) := by decide +kernel
theorem dX7_tightAll_43 : decode cX7_tightAll 43 = .ok (.iload_n 3, 1) := by decide +kernel
theorem dX7_tightAll_44 : decode cX7_tightAll 44 = .ok (.iload 4, 2) := by decide +kernel
theorem dX7_tightAll_46 : decode cX7_tightAll 46 = .ok (.ishr, 1) := by decide +kernel
theorem dX7_tightAll_47 : decode cX7_tightAll 47 = .ok (.iconst 1, 1) := by decide +kernel
theorem dX7_tightAll_48 : decode cX7_tightAll 48 = .ok (.iand, 1) := by decide +kernel
theorem dX7_tightAll_49 : decode cX7_tightAll 49 = .ok (.iadd, 1) := by decide +kernel
theorem dX7_tightAll_50 : decode cX7_tightAll 50 = .ok (.istore_n 1, 1) := by decide +kernel
theorem dX7_tightAll_51 : decode cX7_tightAll 51 = .ok (.iinc 4 1, 3) := by decide +kernel
theorem dX7_tightAll_54 : decode cX7_tightAll 54 = .ok (.goto (-19), 3) := by decide +kernel
theorem dX7_tightAll_57 : decode cX7_tightAll 57 = .ok (.iinc 2 1, 3) := by decide +kernel
theorem dX7_tightAll_60 : decode cX7_tightAll 60 = .ok (.goto (-44), 3) := by decide +kernel
theorem dX7_tightAll_63 : decode cX7_tightAll 63 = .ok (.iload_n 1, 1) := by decide +kernel
theorem dX7_tightAll_64 : decode cX7_tightAll 64 = .ok (.ireturn, 1) := by decide +kernel
set_option maxRecDepth 20000 in
theorem ggX7_greatestAll_X7_greatestPrice : GoodIn wsX7_greatestAll wsX7_greatestPrice := goodIn_r _ [6, 7, 8, 9, 5, 10, 1, 11, 12, 13, 14, 15, 16, 17, 18, 19, 20, 21, 22, 23, 24, 25, 26, 27, 28, 29, 30, 31, 32, 33, 34, 35, 36, 37, 38, 39, 40, 41, 42, 43, 44, 45, 46, 47, 48, 49, 50, 51, 52, 53] (by decide +kernel) (by decide +kernel)
set_option maxRecDepth 20000 in
theorem gX7_greatestAll_X7_greatestPrice : GoodIn wsX7_greatestAll (wsV RX7 96 RX7 yX7_greatestPrice wsX7_greatestPrice) := goodIn_app (goodIn_of _ (by decide +kernel)) ggX7_greatestAll_X7_greatestPrice
theorem dX7_greatestAll_0 : decode cX7_greatestAll 0 = .ok (.iconst 0, 1) := by decide +kernel
theorem dX7_greatestAll_1 : decode cX7_greatestAll 1 = .ok (.istore_n 1, 1) := by decide +kernel
theorem dX7_greatestAll_2 : decode cX7_greatestAll 2 = .ok (.iconst 0, 1) := by decide +kernel
theorem dX7_greatestAll_3 : decode cX7_greatestAll 3 = .ok (.istore_n 2, 1) := by decide +kernel
theorem dX7_greatestAll_4 : decode cX7_greatestAll 4 = .ok (.iload_n 2, 1) := by decide +kernel
theorem dX7_greatestAll_5 : decode cX7_greatestAll 5 = .ok (.aload_n 0, 1) := by decide +kernel
theorem dX7_greatestAll_6 : decode cX7_greatestAll 6 = .ok (.getfield 7, 3) := by decide +kernel
theorem dX7_greatestAll_9 : decode cX7_greatestAll 9 = .ok (.iconst 1, 1) := by decide +kernel
theorem dX7_greatestAll_10 : decode cX7_greatestAll 10 = .ok (.iaload, 1) := by decide +kernel
theorem dX7_greatestAll_11 : decode cX7_greatestAll 11 = .ok (.if_icmp .ge 17, 3) := by decide +kernel
theorem dX7_greatestAll_14 : decode cX7_greatestAll 14 = .ok (.iload_n 1, 1) := by decide +kernel
theorem dX7_greatestAll_15 : decode cX7_greatestAll 15 = .ok (.aload_n 0, 1) := by decide +kernel
theorem dX7_greatestAll_16 : decode cX7_greatestAll 16 = .ok (.iload_n 2, 1) := by decide +kernel
theorem dX7_greatestAll_17 : decode cX7_greatestAll 17 = .ok (.invokevirtual 96, 3) := by decide +kernel
theorem dX7_greatestAll_20 : decode cX7_greatestAll 20 = .ok (.iadd, 1) := by decide +kernel
theorem dX7_greatestAll_21 : decode cX7_greatestAll 21 = .ok (.istore_n 1, 1) := by decide +kernel
theorem dX7_greatestAll_22 : decode cX7_greatestAll 22 = .ok (.iinc 2 1, 3) := by decide +kernel
theorem dX7_greatestAll_25 : decode cX7_greatestAll 25 = .ok (.goto (-21), 3) := by decide +kernel
theorem dX7_greatestAll_28 : decode cX7_greatestAll 28 = .ok (.iload_n 1, 1) := by decide +kernel
theorem dX7_greatestAll_29 : decode cX7_greatestAll 29 = .ok (.ireturn, 1) := by decide +kernel
set_option maxRecDepth 20000 in
theorem ggX7_count_X7_pairs : GoodIn wsX7_count wsX7_pairs := goodIn_r _ [8, 1, 9, 10, 11, 7, 12, 76, 77, 78, 79, 80, 81, 82, 83, 84, 85, 86, 87, 88, 89, 90, 91, 92, 93] (by decide +kernel) (by decide +kernel)
set_option maxRecDepth 20000 in
theorem gX7_count_X7_pairs : GoodIn wsX7_count (wsV RX7 120 RX7 yX7_pairs wsX7_pairs) := goodIn_app (goodIn_of _ (by decide +kernel)) ggX7_count_X7_pairs
set_option maxRecDepth 20000 in
theorem ggX7_count_X7_paired : GoodIn wsX7_count wsX7_paired := goodIn_r _ [16, 1, 17, 18, 19, 20, 7, 21, 22, 23, 24, 25, 26, 27, 28, 29, 30, 31, 32, 33, 34, 35, 36, 37, 38, 39, 40, 41, 42, 43, 44, 45, 46, 9, 10, 11, 12, 76, 77, 78, 79, 80, 81, 82, 83, 84, 85, 86, 87, 88, 89, 90, 91, 92, 93] (by decide +kernel) (by decide +kernel)
set_option maxRecDepth 20000 in
theorem gX7_count_X7_paired : GoodIn wsX7_count (wsV RX7 123 RX7 yX7_paired wsX7_paired) := goodIn_app (goodIn_of _ (by decide +kernel)) ggX7_count_X7_paired
set_option maxRecDepth 20000 in
theorem ggX7_count_X7_tightAll : GoodIn wsX7_count wsX7_tightAll := goodIn_r _ [50, 1, 51, 52, 53, 7, 54, 55, 56, 57, 58, 59, 46, 26, 27, 28, 29, 30, 31, 32, 33, 34, 35, 36, 37, 38, 39, 40, 41, 42, 43, 44, 45, 9, 10, 11, 12, 22, 23, 24, 25, 60, 61, 62, 63, 64, 65, 66, 67, 76, 77, 78, 79, 80, 81, 82, 83, 84, 85, 86, 87, 88, 89, 90, 91, 92, 93] (by decide +kernel) (by decide +kernel)
set_option maxRecDepth 20000 in
theorem gX7_count_X7_tightAll : GoodIn wsX7_count (wsV RX7 126 RX7 yX7_tightAll wsX7_tightAll) := goodIn_app (goodIn_of _ (by decide +kernel)) ggX7_count_X7_tightAll
set_option maxRecDepth 20000 in
theorem ggX7_count_X7_pricesAll : GoodIn wsX7_count wsX7_pricesAll := goodIn_r _ [54, 1, 55, 56, 57, 58, 7, 59, 46, 26, 27, 28, 29, 30, 31, 32, 33, 34, 35, 36, 37, 38, 39, 40, 41, 42, 43, 44, 45, 9, 10, 11, 12, 22, 23, 24, 25, 76, 77, 78, 79, 80, 81, 82, 83, 84, 85, 86, 87, 88, 89, 90, 91, 92, 93] (by decide +kernel) (by decide +kernel)
set_option maxRecDepth 20000 in
theorem gX7_count_X7_pricesAll : GoodIn wsX7_count (wsV RX7 102 RX7 yX7_pricesAll wsX7_pricesAll) := goodIn_app (goodIn_of _ (by decide +kernel)) ggX7_count_X7_pricesAll
set_option maxRecDepth 20000 in
theorem ggX7_count_X7_greatestAll : GoodIn wsX7_count wsX7_greatestAll := goodIn_r _ [71, 1, 72, 73, 74, 7, 75, 26, 27, 28, 29, 30, 31, 32, 33, 34, 35, 36, 37, 38, 39, 40, 41, 42, 43, 44, 45, 46, 9, 10, 11, 12, 22, 23, 24, 25, 76, 77, 78, 79, 80, 81, 82, 83, 84, 85, 86, 87, 88, 89, 90, 91, 92, 93] (by decide +kernel) (by decide +kernel)
set_option maxRecDepth 20000 in
theorem gX7_count_X7_greatestAll : GoodIn wsX7_count (wsV RX7 129 RX7 yX7_greatestAll wsX7_greatestAll) := goodIn_app (goodIn_of _ (by decide +kernel)) ggX7_count_X7_greatestAll
theorem dX7_count_0 : decode cX7_count 0 = .ok (.iload_n 1, 1) := by decide +kernel
theorem dX7_count_1 : decode cX7_count 1 = .ok (.tableswitch 93 0 8 #[51, 51, 58, 63, 68, 73, 78, 83, 88], 51) := by decide +kernel
theorem dX7_count_52 : decode cX7_count 52 = .ok (.aload_n 0, 1) := by decide +kernel
theorem dX7_count_53 : decode cX7_count 53 = .ok (.getfield 7, 3) := by decide +kernel
theorem dX7_count_56 : decode cX7_count 56 = .ok (.iload_n 1, 1) := by decide +kernel
theorem dX7_count_57 : decode cX7_count 57 = .ok (.iaload, 1) := by decide +kernel
theorem dX7_count_58 : decode cX7_count 58 = .ok (.ireturn, 1) := by decide +kernel
theorem dX7_count_59 : decode cX7_count 59 = .ok (.aload_n 0, 1) := by decide +kernel
theorem dX7_count_60 : decode cX7_count 60 = .ok (.invokevirtual 120, 3) := by decide +kernel
theorem dX7_count_63 : decode cX7_count 63 = .ok (.ireturn, 1) := by decide +kernel
theorem dX7_count_64 : decode cX7_count 64 = .ok (.aload_n 0, 1) := by decide +kernel
theorem dX7_count_65 : decode cX7_count 65 = .ok (.invokevirtual 123, 3) := by decide +kernel
theorem dX7_count_68 : decode cX7_count 68 = .ok (.ireturn, 1) := by decide +kernel
theorem dX7_count_69 : decode cX7_count 69 = .ok (.aload_n 0, 1) := by decide +kernel
theorem dX7_count_70 : decode cX7_count 70 = .ok (.invokevirtual 126, 3) := by decide +kernel
theorem dX7_count_73 : decode cX7_count 73 = .ok (.ireturn, 1) := by decide +kernel
theorem dX7_count_74 : decode cX7_count 74 = .ok (.aload_n 0, 1) := by decide +kernel
theorem dX7_count_75 : decode cX7_count 75 = .ok (.invokevirtual 102, 3) := by decide +kernel
theorem dX7_count_78 : decode cX7_count 78 = .ok (.ireturn, 1) := by decide +kernel
theorem dX7_count_79 : decode cX7_count 79 = .ok (.aload_n 0, 1) := by decide +kernel
theorem dX7_count_80 : decode cX7_count 80 = .ok (.invokevirtual 129, 3) := by decide +kernel
theorem dX7_count_83 : decode cX7_count 83 = .ok (.ireturn, 1) := by decide +kernel
theorem dX7_count_84 : decode cX7_count 84 = .ok (.aload_n 0, 1) := by decide +kernel
theorem dX7_count_85 : decode cX7_count 85 = .ok (.getfield 44, 3) := by decide +kernel
theorem dX7_count_88 : decode cX7_count 88 = .ok (.ireturn, 1) := by decide +kernel
theorem dX7_count_89 : decode cX7_count 89 = .ok (.aload_n 0, 1) := by decide +kernel
theorem dX7_count_90 : decode cX7_count 90 = .ok (.getfield 132, 3) := by decide +kernel
theorem dX7_count_93 : decode cX7_count 93 = .ok (.ireturn, 1) := by decide +kernel
theorem dX7_count_94 : decode cX7_count 94 = .ok (.iconst (-1), 1) := by decide +kernel
theorem dX7_count_95 : decode cX7_count 95 = .ok (.ireturn, 1) := by decide +kernel
theorem dX7_undo_0 : decode cX7_undo 0 = .ok (.aload_n 0, 1) := by decide +kernel
theorem dX7_undo_1 : decode cX7_undo 1 = .ok (.getfield 44, 3) := by decide +kernel
theorem dX7_undo_4 : decode cX7_undo 4 = .ok (.ifCond .ne 6, 3) := by decide +kernel
theorem dX7_undo_7 : decode cX7_undo 7 = .ok (.bipush (-2), 2) := by decide +kernel
theorem dX7_undo_9 : decode cX7_undo 9 = .ok (.ireturn, 1) := by decide +kernel
theorem dX7_undo_10 : decode cX7_undo 10 = .ok (.aload_n 0, 1) := by decide +kernel
theorem dX7_undo_11 : decode cX7_undo 11 = .ok (.dup, 1) := by decide +kernel
theorem dX7_undo_12 : decode cX7_undo 12 = .ok (.getfield 44, 3) := by decide +kernel
theorem dX7_undo_15 : decode cX7_undo 15 = .ok (.iconst 1, 1) := by decide +kernel
theorem dX7_undo_16 : decode cX7_undo 16 = .ok (.isub, 1) := by decide +kernel
theorem dX7_undo_17 : decode cX7_undo 17 = .ok (.putfield 44, 3) := by decide +kernel
theorem dX7_undo_20 : decode cX7_undo 20 = .ok (.iconst 0, 1) := by decide +kernel
theorem dX7_undo_21 : decode cX7_undo 21 = .ok (.istore_n 1, 1) := by decide +kernel
theorem dX7_undo_22 : decode cX7_undo 22 = .ok (.iload_n 1, 1) := by decide +kernel
theorem dX7_undo_23 : decode cX7_undo 23 = .ok (.bipush 58, 2) := by decide +kernel
theorem dX7_undo_25 : decode cX7_undo 25 = .ok (.if_icmp .ge 29, 3) := by decide +kernel
theorem dX7_undo_28 : decode cX7_undo 28 = .ok (.aload_n 0, 1) := by decide +kernel
theorem dX7_undo_29 : decode cX7_undo 29 = .ok (.getfield 7, 3) := by decide +kernel
theorem dX7_undo_32 : decode cX7_undo 32 = .ok (.iload_n 1, 1) := by decide +kernel
theorem dX7_undo_33 : decode cX7_undo 33 = .ok (.aload_n 0, 1) := by decide +kernel
theorem dX7_undo_34 : decode cX7_undo 34 = .ok (.getfield 13, 3) := by decide +kernel
theorem dX7_undo_37 : decode cX7_undo 37 = .ok (.bipush 58, 2) := by decide +kernel
theorem dX7_undo_39 : decode cX7_undo 39 = .ok (.aload_n 0, 1) := by decide +kernel
theorem dX7_undo_40 : decode cX7_undo 40 = .ok (.getfield 44, 3) := by decide +kernel
theorem dX7_undo_43 : decode cX7_undo 43 = .ok (.imul, 1) := by decide +kernel
theorem dX7_undo_44 : decode cX7_undo 44 = .ok (.iload_n 1, 1) := by decide +kernel
theorem dX7_undo_45 : decode cX7_undo 45 = .ok (.iadd, 1) := by decide +kernel
theorem dX7_undo_46 : decode cX7_undo 46 = .ok (.iaload, 1) := by decide +kernel
theorem dX7_undo_47 : decode cX7_undo 47 = .ok (.iastore, 1) := by decide +kernel
theorem dX7_undo_48 : decode cX7_undo 48 = .ok (.iinc 1 1, 3) := by decide +kernel
theorem dX7_undo_51 : decode cX7_undo 51 = .ok (.goto (-29), 3) := by decide +kernel
theorem dX7_undo_54 : decode cX7_undo 54 = .ok (.aload_n 0, 1) := by decide +kernel
theorem dX7_undo_55 : decode cX7_undo 55 = .ok (.getfield 44, 3) := by decide +kernel
theorem dX7_undo_58 : decode cX7_undo 58 = .ok (.ireturn, 1) := by decide +kernel
set_option maxRecDepth 20000 in
theorem ggX7_type_X7_in : GoodIn wsX7_type wsX7_in := goodIn_r _ [6] (by decide +kernel) (by decide +kernel)
set_option maxRecDepth 20000 in
theorem gX7_type_X7_in : GoodIn wsX7_type (va_wsS RX7 68 yX7_in wsX7_in) := goodIn_app (goodIn_of _ (by decide +kernel)) ggX7_type_X7_in
theorem dX7_type_0 : decode cX7_type 0 = .ok (.iload_n 1, 1) := by decide +kernel
theorem dX7_type_1 : decode cX7_type 1 = .ok (.bipush 32, 2) := by decide +kernel
theorem dX7_type_3 : decode cX7_type 3 = .ok (.bipush 126, 2) := by decide +kernel
theorem dX7_type_5 : decode cX7_type 5 = .ok (.invokestatic 68, 3) := by decide +kernel
theorem dX7_type_8 : decode cX7_type 8 = .ok (.ifCond .ne 5, 3) := by decide +kernel
theorem dX7_type_11 : decode cX7_type 11 = .ok (.iconst (-1), 1) := by decide +kernel
theorem dX7_type_12 : decode cX7_type 12 = .ok (.ireturn, 1) := by decide +kernel
theorem dX7_type_13 : decode cX7_type 13 = .ok (.aload_n 0, 1) := by decide +kernel
theorem dX7_type_14 : decode cX7_type 14 = .ok (.getfield 132, 3) := by decide +kernel
theorem dX7_type_17 : decode cX7_type 17 = .ok (.bipush 80, 2) := by decide +kernel
theorem dX7_type_19 : decode cX7_type 19 = .ok (.if_icmp .ne 6, 3) := by decide +kernel
theorem dX7_type_22 : decode cX7_type 22 = .ok (.bipush (-3), 2) := by decide +kernel
theorem dX7_type_24 : decode cX7_type 24 = .ok (.ireturn, 1) := by decide +kernel
theorem dX7_type_25 : decode cX7_type 25 = .ok (.aload_n 0, 1) := by decide +kernel
theorem dX7_type_26 : decode cX7_type 26 = .ok (.getfield 16, 3) := by decide +kernel
theorem dX7_type_29 : decode cX7_type 29 = .ok (.aload_n 0, 1) := by decide +kernel
theorem dX7_type_30 : decode cX7_type 30 = .ok (.getfield 132, 3) := by decide +kernel
theorem dX7_type_33 : decode cX7_type 33 = .ok (.iload_n 1, 1) := by decide +kernel
theorem dX7_type_34 : decode cX7_type 34 = .ok (.iastore, 1) := by decide +kernel
theorem dX7_type_35 : decode cX7_type 35 = .ok (.aload_n 0, 1) := by decide +kernel
theorem dX7_type_36 : decode cX7_type 36 = .ok (.dup, 1) := by decide +kernel
theorem dX7_type_37 : decode cX7_type 37 = .ok (.getfield 132, 3) := by decide +kernel
theorem dX7_type_40 : decode cX7_type 40 = .ok (.iconst 1, 1) := by decide +kernel
theorem dX7_type_41 : decode cX7_type 41 = .ok (.iadd, 1) := by decide +kernel
theorem dX7_type_42 : decode cX7_type 42 = .ok (.putfield 132, 3) := by decide +kernel
theorem dX7_type_45 : decode cX7_type 45 = .ok (.aload_n 0, 1) := by decide +kernel
theorem dX7_type_46 : decode cX7_type 46 = .ok (.getfield 132, 3) := by decide +kernel
theorem dX7_type_49 : decode cX7_type 49 = .ok (.ireturn, 1) := by decide +kernel
theorem dX7_clearText_0 : decode cX7_clearText 0 = .ok (.aload_n 0, 1) := by decide +kernel
theorem dX7_clearText_1 : decode cX7_clearText 1 = .ok (.getfield 132, 3) := by decide +kernel
theorem dX7_clearText_4 : decode cX7_clearText 4 = .ok (.istore_n 1, 1) := by decide +kernel
theorem dX7_clearText_5 : decode cX7_clearText 5 = .ok (.aload_n 0, 1) := by decide +kernel
theorem dX7_clearText_6 : decode cX7_clearText 6 = .ok (.iconst 0, 1) := by decide +kernel
theorem dX7_clearText_7 : decode cX7_clearText 7 = .ok (.putfield 132, 3) := by decide +kernel
theorem dX7_clearText_10 : decode cX7_clearText 10 = .ok (.iload_n 1, 1) := by decide +kernel
theorem dX7_clearText_11 : decode cX7_clearText 11 = .ok (.ireturn, 1) := by decide +kernel
set_option maxRecDepth 20000 in
theorem ggX7_isAt_X7_in : GoodIn wsX7_isAt wsX7_in := goodIn_r _ [7] (by decide +kernel) (by decide +kernel)
set_option maxRecDepth 20000 in
theorem gX7_isAt_X7_in : GoodIn wsX7_isAt (va_wsS RX7 68 yX7_in wsX7_in) := goodIn_app (goodIn_of _ (by decide +kernel)) ggX7_isAt_X7_in
theorem dX7_isAt_0 : decode cX7_isAt 0 = .ok (.aload_n 0, 1) := by decide +kernel
theorem dX7_isAt_1 : decode cX7_isAt 1 = .ok (.getfield 135, 3) := by decide +kernel
theorem dX7_isAt_4 : decode cX7_isAt 4 = .ok (.aload_n 0, 1) := by decide +kernel
theorem dX7_isAt_5 : decode cX7_isAt 5 = .ok (.getfield 132, 3) := by decide +kernel
theorem dX7_isAt_8 : decode cX7_isAt 8 = .ok (.if_icmp .ge 24, 3) := by decide +kernel
theorem dX7_isAt_11 : decode cX7_isAt 11 = .ok (.aload_n 0, 1) := by decide +kernel
theorem dX7_isAt_12 : decode cX7_isAt 12 = .ok (.getfield 16, 3) := by decide +kernel
theorem dX7_isAt_15 : decode cX7_isAt 15 = .ok (.aload_n 0, 1) := by decide +kernel
theorem dX7_isAt_16 : decode cX7_isAt 16 = .ok (.getfield 135, 3) := by decide +kernel
theorem dX7_isAt_19 : decode cX7_isAt 19 = .ok (.iaload, 1) := by decide +kernel
theorem dX7_isAt_20 : decode cX7_isAt 20 = .ok (.iload_n 1, 1) := by decide +kernel
theorem dX7_isAt_21 : decode cX7_isAt 21 = .ok (.iload_n 2, 1) := by decide +kernel
theorem dX7_isAt_22 : decode cX7_isAt 22 = .ok (.invokestatic 68, 3) := by decide +kernel
theorem dX7_isAt_25 : decode cX7_isAt 25 = .ok (.ifCond .eq 7, 3) := by decide +kernel
theorem dX7_isAt_28 : decode cX7_isAt 28 = .ok (.iconst 1, 1) := by decide +kernel
theorem dX7_isAt_29 : decode cX7_isAt 29 = .ok (.goto 4, 3) := by decide +kernel
theorem dX7_isAt_32 : decode cX7_isAt 32 = .ok (.iconst 0, 1) := by decide +kernel
theorem dX7_isAt_33 : decode cX7_isAt 33 = .ok (.ireturn, 1) := by decide +kernel
theorem dX7_fails_0 : decode cX7_fails 0 = .ok (.aload_n 0, 1) := by decide +kernel
theorem dX7_fails_1 : decode cX7_fails 1 = .ok (.iload_n 1, 1) := by decide +kernel
theorem dX7_fails_2 : decode cX7_fails 2 = .ok (.putfield 138, 3) := by decide +kernel
theorem dX7_fails_5 : decode cX7_fails 5 = .ok (.iconst 0, 1) := by decide +kernel
theorem dX7_fails_6 : decode cX7_fails 6 = .ok (.ireturn, 1) := by decide +kernel
set_option maxRecDepth 20000 in
theorem ggX7_number_X7_isAt : GoodIn wsX7_number wsX7_isAt := goodIn_r _ [8, 3, 9, 2, 10, 11, 7, 12, 18, 19, 20, 21, 22, 23, 24, 25, 26, 27, 28, 29, 30, 31, 32, 33, 34, 35] (by decide +kernel) (by decide +kernel)
set_option maxRecDepth 20000 in
theorem gX7_number_X7_isAt : GoodIn wsX7_number (wsV RX7 141 RX7 yX7_isAt wsX7_isAt) := goodIn_app (goodIn_of _ (by decide +kernel)) ggX7_number_X7_isAt
set_option maxRecDepth 20000 in
theorem ggX7_number_X7_fails : GoodIn wsX7_number wsX7_fails := goodIn_r _ [16, 17, 18, 19, 20, 21, 22, 23, 24, 25, 26, 27, 28, 29, 30, 31, 32, 33, 34, 35] (by decide +kernel) (by decide +kernel)
set_option maxRecDepth 20000 in
theorem gX7_number_X7_fails : GoodIn wsX7_number (wsV RX7 145 RX7 yX7_fails wsX7_fails) := goodIn_app (goodIn_of _ (by decide +kernel)) ggX7_number_X7_fails
theorem dX7_number_0 : decode cX7_number 0 = .ok (.aload_n 0, 1) := by decide +kernel
theorem dX7_number_1 : decode cX7_number 1 = .ok (.bipush 48, 2) := by decide +kernel
theorem dX7_number_3 : decode cX7_number 3 = .ok (.bipush 57, 2) := by decide +kernel
theorem dX7_number_5 : decode cX7_number 5 = .ok (.invokevirtual 141, 3) := by decide +kernel
theorem dX7_number_8 : decode cX7_number 8 = .ok (.ifCond .ne 9, 3) := by decide +kernel
theorem dX7_number_11 : decode cX7_number 11 = .ok (.aload_n 0, 1) := by decide +kernel
theorem dX7_number_12 : decode cX7_number 12 = .ok (.iconst 1, 1) := by decide +kernel
theorem dX7_number_13 : decode cX7_number 13 = .ok (.invokevirtual 145, 3) := by decide +kernel
theorem dX7_number_16 : decode cX7_number 16 = .ok (.ireturn, 1) := by decide +kernel
theorem dX7_number_17 : decode cX7_number 17 = .ok (.aload_n 0, 1) := by decide +kernel
theorem dX7_number_18 : decode cX7_number 18 = .ok (.iconst 0, 1) := by decide +kernel
theorem dX7_number_19 : decode cX7_number 19 = .ok (.putfield 148, 3) := by decide +kernel
theorem dX7_number_22 : decode cX7_number 22 = .ok (.iconst 1, 1) := by decide +kernel
theorem dX7_number_23 : decode cX7_number 23 = .ok (.istore_n 1, 1) := by decide +kernel
theorem dX7_number_24 : decode cX7_number 24 = .ok (.iconst 0, 1) := by decide +kernel
theorem dX7_number_25 : decode cX7_number 25 = .ok (.istore_n 2, 1) := by decide +kernel
theorem dX7_number_26 : decode cX7_number 26 = .ok (.iload_n 2, 1) := by decide +kernel
theorem dX7_number_27 : decode cX7_number 27 = .ok (.iconst 4, 1) := by decide +kernel
theorem dX7_number_28 : decode cX7_number 28 = .ok (.if_icmp .ge 71, 3) := by decide +kernel
theorem dX7_number_31 : decode cX7_number 31 = .ok (.iload_n 1, 1) := by decide +kernel
theorem dX7_number_32 : decode cX7_number 32 = .ok (.ifCond .eq 67, 3) := by decide +kernel
theorem dX7_number_35 : decode cX7_number 35 = .ok (.aload_n 0, 1) := by decide +kernel
theorem dX7_number_36 : decode cX7_number 36 = .ok (.bipush 10, 2) := by decide +kernel
theorem dX7_number_38 : decode cX7_number 38 = .ok (.aload_n 0, 1) := by decide +kernel
theorem dX7_number_39 : decode cX7_number 39 = .ok (.getfield 148, 3) := by decide +kernel
theorem dX7_number_42 : decode cX7_number 42 = .ok (.imul, 1) := by decide +kernel
theorem dX7_number_43 : decode cX7_number 43 = .ok (.aload_n 0, 1) := by decide +kernel
theorem dX7_number_44 : decode cX7_number 44 = .ok (.getfield 16, 3) := by decide +kernel
theorem dX7_number_47 : decode cX7_number 47 = .ok (.aload_n 0, 1) := by decide +kernel
theorem dX7_number_48 : decode cX7_number 48 = .ok (.getfield 135, 3) := by decide +kernel
theorem dX7_number_51 : decode cX7_number 51 = .ok (.iaload, 1) := by decide +kernel
theorem dX7_number_52 : decode cX7_number 52 = .ok (.iadd, 1) := by decide +kernel
theorem dX7_number_53 : decode cX7_number 53 = .ok (.bipush 48, 2) := by decide +kernel
theorem dX7_number_55 : decode cX7_number 55 = .ok (.isub, 1) := by decide +kernel
theorem dX7_number_56 : decode cX7_number 56 = .ok (.putfield 148, 3) := by decide +kernel
theorem dX7_number_59 : decode cX7_number 59 = .ok (.aload_n 0, 1) := by decide +kernel
theorem dX7_number_60 : decode cX7_number 60 = .ok (.dup, 1) := by decide +kernel
theorem dX7_number_61 : decode cX7_number 61 = .ok (.getfield 135, 3) := by decide +kernel
theorem dX7_number_64 : decode cX7_number 64 = .ok (.iconst 1, 1) := by decide +kernel
theorem dX7_number_65 : decode cX7_number 65 = .ok (.iadd, 1) := by decide +kernel
theorem dX7_number_66 : decode cX7_number 66 = .ok (.putfield 135, 3) := by decide +kernel
theorem dX7_number_69 : decode cX7_number 69 = .ok (.aload_n 0, 1) := by decide +kernel
theorem dX7_number_70 : decode cX7_number 70 = .ok (.getfield 148, 3) := by decide +kernel
theorem dX7_number_73 : decode cX7_number 73 = .ok (.ifCond .le 18, 3) := by decide +kernel
theorem dX7_number_76 : decode cX7_number 76 = .ok (.aload_n 0, 1) := by decide +kernel
theorem dX7_number_77 : decode cX7_number 77 = .ok (.bipush 48, 2) := by decide +kernel
theorem dX7_number_79 : decode cX7_number 79 = .ok (.bipush 57, 2) := by decide +kernel
theorem dX7_number_81 : decode cX7_number 81 = .ok (.invokevirtual 141, 3) := by decide +kernel
theorem dX7_number_84 : decode cX7_number 84 = .ok (.ifCond .eq 7, 3) := by decide +kernel
theorem dX7_number_87 : decode cX7_number 87 = .ok (.iconst 1, 1) := by decide +kernel
theorem dX7_number_88 : decode cX7_number 88 = .ok (.goto 4, 3) := by decide +kernel
theorem dX7_number_91 : decode cX7_number 91 = .ok (.iconst 0, 1) := by decide +kernel
theorem dX7_number_92 : decode cX7_number 92 = .ok (.istore_n 1, 1) := by decide +kernel
theorem dX7_number_93 : decode cX7_number 93 = .ok (.iinc 2 1, 3) := by decide +kernel
theorem dX7_number_96 : decode cX7_number 96 = .ok (.goto (-70), 3) := by decide +kernel
theorem dX7_number_99 : decode cX7_number 99 = .ok (.iconst 1, 1) := by decide +kernel
theorem dX7_number_100 : decode cX7_number 100 = .ok (.ireturn, 1) := by decide +kernel
set_option maxRecDepth 20000 in
theorem ggX7_entry_X7_isAt : GoodIn wsX7_entry wsX7_isAt := goodIn_r _ [7, 2, 8, 9, 10, 11, 6, 12, 22, 23, 24, 25, 26, 27, 28, 29, 30, 31, 32, 33, 34, 35, 36, 37, 38, 39] (by decide +kernel) (by decide +kernel)
set_option maxRecDepth 20000 in
theorem gX7_entry_X7_isAt : GoodIn wsX7_entry (wsV RX7 141 RX7 yX7_isAt wsX7_isAt) := goodIn_app (goodIn_of _ (by decide +kernel)) ggX7_entry_X7_isAt
set_option maxRecDepth 20000 in
theorem ggX7_entry_X7_number : GoodIn wsX7_entry wsX7_number := goodIn_r _ [16, 1, 9, 2, 3, 4, 5, 6, 7, 8, 10, 11, 12, 17, 18, 19, 20, 21, 22, 23, 24, 25, 26, 27, 28, 29, 30, 31, 32, 33, 34, 35, 36, 37, 38, 39] (by decide +kernel) (by decide +kernel)
set_option maxRecDepth 20000 in
theorem gX7_entry_X7_number : GoodIn wsX7_entry (wsV RX7 151 RX7 yX7_number wsX7_number) := goodIn_app (goodIn_of _ (by decide +kernel)) ggX7_entry_X7_number
theorem dX7_entry_0 : decode cX7_entry 0 = .ok (.aload_n 0, 1) := by decide +kernel
theorem dX7_entry_1 : decode cX7_entry 1 = .ok (.bipush 120, 2) := by decide +kernel
theorem dX7_entry_3 : decode cX7_entry 3 = .ok (.bipush 120, 2) := by decide +kernel
theorem dX7_entry_5 : decode cX7_entry 5 = .ok (.invokevirtual 141, 3) := by decide +kernel
theorem dX7_entry_8 : decode cX7_entry 8 = .ok (.ifCond .eq 20, 3) := by decide +kernel
theorem dX7_entry_11 : decode cX7_entry 11 = .ok (.aload_n 0, 1) := by decide +kernel
theorem dX7_entry_12 : decode cX7_entry 12 = .ok (.iconst (-1), 1) := by decide +kernel
theorem dX7_entry_13 : decode cX7_entry 13 = .ok (.putfield 148, 3) := by decide +kernel
theorem dX7_entry_16 : decode cX7_entry 16 = .ok (.aload_n 0, 1) := by decide +kernel
theorem dX7_entry_17 : decode cX7_entry 17 = .ok (.dup, 1) := by decide +kernel
theorem dX7_entry_18 : decode cX7_entry 18 = .ok (.getfield 135, 3) := by decide +kernel
theorem dX7_entry_21 : decode cX7_entry 21 = .ok (.iconst 1, 1) := by decide +kernel
theorem dX7_entry_22 : decode cX7_entry 22 = .ok (.iadd, 1) := by decide +kernel
theorem dX7_entry_23 : decode cX7_entry 23 = .ok (.putfield 135, 3) := by decide +kernel
theorem dX7_entry_26 : decode cX7_entry 26 = .ok (.iconst 1, 1) := by decide +kernel
theorem dX7_entry_27 : decode cX7_entry 27 = .ok (.ireturn, 1) := by decide +kernel
theorem dX7_entry_28 : decode cX7_entry 28 = .ok (.aload_n 0, 1) := by decide +kernel
theorem dX7_entry_29 : decode cX7_entry 29 = .ok (.invokevirtual 151, 3) := by decide +kernel
theorem dX7_entry_32 : decode cX7_entry 32 = .ok (.ireturn, 1) := by decide +kernel
set_option maxRecDepth 20000 in
theorem ggX7_row_X7_entry : GoodIn wsX7_row wsX7_entry := goodIn_r _ [11, 4, 5, 12, 13, 14, 10, 15, 16, 17, 18, 19, 20, 21, 22, 23, 24, 25, 26, 27, 28, 29, 30, 31, 32, 33, 34, 35, 36, 37, 38, 39, 40, 41, 42, 43, 44, 45, 46, 47] (by decide +kernel) (by decide +kernel)
set_option maxRecDepth 20000 in
theorem gX7_row_X7_entry : GoodIn wsX7_row (wsV RX7 161 RX7 yX7_entry wsX7_entry) := goodIn_app (goodIn_of _ (by decide +kernel)) ggX7_row_X7_entry
set_option maxRecDepth 20000 in
theorem ggX7_row_X7_isAt : GoodIn wsX7_row wsX7_isAt := goodIn_r _ [15, 5, 16, 17, 18, 19, 10, 20, 30, 31, 32, 33, 34, 35, 36, 37, 38, 39, 40, 41, 42, 43, 44, 45, 46, 47] (by decide +kernel) (by decide +kernel)
set_option maxRecDepth 20000 in
theorem gX7_row_X7_isAt : GoodIn wsX7_row (wsV RX7 141 RX7 yX7_isAt wsX7_isAt) := goodIn_app (goodIn_of _ (by decide +kernel)) ggX7_row_X7_isAt
set_option maxRecDepth 20000 in
theorem ggX7_row_X7_fails : GoodIn wsX7_row wsX7_fails := goodIn_r _ [28, 29, 30, 31, 32, 33, 34, 35, 36, 37, 38, 39, 40, 41, 42, 43, 44, 45, 46, 47] (by decide +kernel) (by decide +kernel)
set_option maxRecDepth 20000 in
theorem gX7_row_X7_fails : GoodIn wsX7_row (wsV RX7 145 RX7 yX7_fails wsX7_fails) := goodIn_app (goodIn_of _ (by decide +kernel)) ggX7_row_X7_fails
set_option maxRecDepth 20000 in
theorem ggX7_row_X7_number : GoodIn wsX7_row wsX7_number := goodIn_r _ [24, 4, 17, 5, 12, 13, 14, 10, 15, 16, 18, 19, 20, 25, 26, 27, 28, 29, 30, 31, 32, 33, 34, 35, 36, 37, 38, 39, 40, 41, 42, 43, 44, 45, 46, 47] (by decide +kernel) (by decide +kernel)
set_option maxRecDepth 20000 in
theorem gX7_row_X7_number : GoodIn wsX7_row (wsV RX7 151 RX7 yX7_number wsX7_number) := goodIn_app (goodIn_of _ (by decide +kernel)) ggX7_row_X7_number
theorem dX7_row_0 : decode cX7_row 0 = .ok (.aload_n 0, 1) := by decide +kernel
theorem dX7_row_1 : decode cX7_row 1 = .ok (.getfield 155, 3) := by decide +kernel
theorem dX7_row_4 : decode cX7_row 4 = .ok (.ifCond .ne 8, 3) := by decide +kernel
theorem dX7_row_7 : decode cX7_row 7 = .ok (.bipush 7, 2) := by decide +kernel
theorem dX7_row_9 : decode cX7_row 9 = .ok (.goto 7, 3) := by decide +kernel
theorem dX7_row_12 : decode cX7_row 12 = .ok (.aload_n 0, 1) := by decide +kernel
theorem dX7_row_13 : decode cX7_row 13 = .ok (.getfield 158, 3) := by decide +kernel
theorem dX7_row_16 : decode cX7_row 16 = .ok (.istore_n 1, 1) := by decide +kernel
theorem dX7_row_17 : decode cX7_row 17 = .ok (.iconst 0, 1) := by decide +kernel
theorem dX7_row_18 : decode cX7_row 18 = .ok (.istore_n 2, 1) := by decide +kernel
theorem dX7_row_19 : decode cX7_row 19 = .ok (.iconst 1, 1) := by decide +kernel
theorem dX7_row_20 : decode cX7_row 20 = .ok (.istore_n 3, 1) := by decide +kernel
theorem dX7_row_21 : decode cX7_row 21 = .ok (.iload_n 3, 1) := by decide +kernel
theorem dX7_row_22 : decode cX7_row 22 = .ok (.ifCond .eq 104, 3) := by decide +kernel
theorem dX7_row_25 : decode cX7_row 25 = .ok (.aload_n 0, 1) := by decide +kernel
theorem dX7_row_26 : decode cX7_row 26 = .ok (.invokevirtual 161, 3) := by decide +kernel
theorem dX7_row_29 : decode cX7_row 29 = .ok (.ifCond .ne 5, 3) := by decide +kernel
theorem dX7_row_32 : decode cX7_row 32 = .ok (.iconst 0, 1) := by decide +kernel
theorem dX7_row_33 : decode cX7_row 33 = .ok (.ireturn, 1) := by decide +kernel
theorem dX7_row_34 : decode cX7_row 34 = .ok (.aload_n 0, 1) := by decide +kernel
theorem dX7_row_35 : decode cX7_row 35 = .ok (.getfield 38, 3) := by decide +kernel
theorem dX7_row_38 : decode cX7_row 38 = .ok (.bipush 7, 2) := by decide +kernel
theorem dX7_row_40 : decode cX7_row 40 = .ok (.aload_n 0, 1) := by decide +kernel
theorem dX7_row_41 : decode cX7_row 41 = .ok (.getfield 155, 3) := by decide +kernel
theorem dX7_row_44 : decode cX7_row 44 = .ok (.imul, 1) := by decide +kernel
theorem dX7_row_45 : decode cX7_row 45 = .ok (.iload_n 2, 1) := by decide +kernel
theorem dX7_row_46 : decode cX7_row 46 = .ok (.iadd, 1) := by decide +kernel
theorem dX7_row_47 : decode cX7_row 47 = .ok (.aload_n 0, 1) := by decide +kernel
theorem dX7_row_48 : decode cX7_row 48 = .ok (.getfield 148, 3) := by decide +kernel
theorem dX7_row_51 : decode cX7_row 51 = .ok (.iastore, 1) := by decide +kernel
theorem dX7_row_52 : decode cX7_row 52 = .ok (.iinc 2 1, 3) := by decide +kernel
theorem dX7_row_55 : decode cX7_row 55 = .ok (.aload_n 0, 1) := by decide +kernel
theorem dX7_row_56 : decode cX7_row 56 = .ok (.bipush 44, 2) := by decide +kernel
theorem dX7_row_58 : decode cX7_row 58 = .ok (.bipush 44, 2) := by decide +kernel
theorem dX7_row_60 : decode cX7_row 60 = .ok (.invokevirtual 141, 3) := by decide +kernel
theorem dX7_row_63 : decode cX7_row 63 = .ok (.istore_n 3, 1) := by decide +kernel
theorem dX7_row_64 : decode cX7_row 64 = .ok (.iload_n 3, 1) := by decide +kernel
theorem dX7_row_65 : decode cX7_row 65 = .ok (.ifCond .eq 8, 3) := by decide +kernel
theorem dX7_row_68 : decode cX7_row 68 = .ok (.iload_n 2, 1) := by decide +kernel
theorem dX7_row_69 : decode cX7_row 69 = .ok (.iload_n 1, 1) := by decide +kernel
theorem dX7_row_70 : decode cX7_row 70 = .ok (.if_icmp .eq 29, 3) := by decide +kernel
theorem dX7_row_73 : decode cX7_row 73 = .ok (.aload_n 0, 1) := by decide +kernel
theorem dX7_row_74 : decode cX7_row 74 = .ok (.bipush 47, 2) := by decide +kernel
theorem dX7_row_76 : decode cX7_row 76 = .ok (.bipush 47, 2) := by decide +kernel
theorem dX7_row_78 : decode cX7_row 78 = .ok (.invokevirtual 141, 3) := by decide +kernel
theorem dX7_row_81 : decode cX7_row 81 = .ok (.ifCond .eq 24, 3) := by decide +kernel
theorem dX7_row_84 : decode cX7_row 84 = .ok (.aload_n 0, 1) := by decide +kernel
theorem dX7_row_85 : decode cX7_row 85 = .ok (.getfield 155, 3) := by decide +kernel
theorem dX7_row_88 : decode cX7_row 88 = .ok (.ifCond .le 17, 3) := by decide +kernel
theorem dX7_row_91 : decode cX7_row 91 = .ok (.iload_n 2, 1) := by decide +kernel
theorem dX7_row_92 : decode cX7_row 92 = .ok (.aload_n 0, 1) := by decide +kernel
theorem dX7_row_93 : decode cX7_row 93 = .ok (.getfield 158, 3) := by decide +kernel
theorem dX7_row_96 : decode cX7_row 96 = .ok (.if_icmp .ge 9, 3) := by decide +kernel
theorem dX7_row_99 : decode cX7_row 99 = .ok (.aload_n 0, 1) := by decide +kernel
theorem dX7_row_100 : decode cX7_row 100 = .ok (.iconst 2, 1) := by decide +kernel
theorem dX7_row_101 : decode cX7_row 101 = .ok (.invokevirtual 145, 3) := by decide +kernel
theorem dX7_row_104 : decode cX7_row 104 = .ok (.ireturn, 1) := by decide +kernel
theorem dX7_row_105 : decode cX7_row 105 = .ok (.aload_n 0, 1) := by decide +kernel
theorem dX7_row_106 : decode cX7_row 106 = .ok (.dup, 1) := by decide +kernel
theorem dX7_row_107 : decode cX7_row 107 = .ok (.getfield 135, 3) := by decide +kernel
theorem dX7_row_110 : decode cX7_row 110 = .ok (.iload_n 3, 1) := by decide +kernel
theorem dX7_row_111 : decode cX7_row 111 = .ok (.ifCond .eq 7, 3) := by decide +kernel
theorem dX7_row_114 : decode cX7_row 114 = .ok (.iconst 1, 1) := by decide +kernel
theorem dX7_row_115 : decode cX7_row 115 = .ok (.goto 4, 3) := by decide +kernel
theorem dX7_row_118 : decode cX7_row 118 = .ok (.iconst 0, 1) := by decide +kernel
theorem dX7_row_119 : decode cX7_row 119 = .ok (.iadd, 1) := by decide +kernel
theorem dX7_row_120 : decode cX7_row 120 = .ok (.putfield 135, 3) := by decide +kernel
theorem dX7_row_123 : decode cX7_row 123 = .ok (.goto (-102), 3) := by decide +kernel
theorem dX7_row_126 : decode cX7_row 126 = .ok (.aload_n 0, 1) := by decide +kernel
theorem dX7_row_127 : decode cX7_row 127 = .ok (.bipush 47, 2) := by decide +kernel
theorem dX7_row_129 : decode cX7_row 129 = .ok (.bipush 47, 2) := by decide +kernel
theorem dX7_row_131 : decode cX7_row 131 = .ok (.invokevirtual 141, 3) := by decide +kernel
theorem dX7_row_134 : decode cX7_row 134 = .ok (.ifCond .ne 9, 3) := by decide +kernel
theorem dX7_row_137 : decode cX7_row 137 = .ok (.aload_n 0, 1) := by decide +kernel
theorem dX7_row_138 : decode cX7_row 138 = .ok (.iconst 1, 1) := by decide +kernel
theorem dX7_row_139 : decode cX7_row 139 = .ok (.invokevirtual 145, 3) := by decide +kernel
theorem dX7_row_142 : decode cX7_row 142 = .ok (.ireturn, 1) := by decide +kernel
theorem dX7_row_143 : decode cX7_row 143 = .ok (.aload_n 0, 1) := by decide +kernel
theorem dX7_row_144 : decode cX7_row 144 = .ok (.dup, 1) := by decide +kernel
theorem dX7_row_145 : decode cX7_row 145 = .ok (.getfield 135, 3) := by decide +kernel
theorem dX7_row_148 : decode cX7_row 148 = .ok (.iconst 1, 1) := by decide +kernel
theorem dX7_row_149 : decode cX7_row 149 = .ok (.iadd, 1) := by decide +kernel
theorem dX7_row_150 : decode cX7_row 150 = .ok (.putfield 135, 3) := by decide +kernel
theorem dX7_row_153 : decode cX7_row 153 = .ok (.aload_n 0, 1) := by decide +kernel
theorem dX7_row_154 : decode cX7_row 154 = .ok (.iload_n 2, 1) := by decide +kernel
theorem dX7_row_155 : decode cX7_row 155 = .ok (.putfield 158, 3) := by decide +kernel
theorem dX7_row_158 : decode cX7_row 158 = .ok (.aload_n 0, 1) := by decide +kernel
theorem dX7_row_159 : decode cX7_row 159 = .ok (.invokevirtual 151, 3) := by decide +kernel
theorem dX7_row_162 : decode cX7_row 162 = .ok (.ifCond .ne 5, 3) := by decide +kernel
theorem dX7_row_165 : decode cX7_row 165 = .ok (.iconst 0, 1) := by decide +kernel
theorem dX7_row_166 : decode cX7_row 166 = .ok (.ireturn, 1) := by decide +kernel
theorem dX7_row_167 : decode cX7_row 167 = .ok (.aload_n 0, 1) := by decide +kernel
theorem dX7_row_168 : decode cX7_row 168 = .ok (.getfield 41, 3) := by decide +kernel
theorem dX7_row_171 : decode cX7_row 171 = .ok (.aload_n 0, 1) := by decide +kernel
theorem dX7_row_172 : decode cX7_row 172 = .ok (.getfield 155, 3) := by decide +kernel
theorem dX7_row_175 : decode cX7_row 175 = .ok (.aload_n 0, 1) := by decide +kernel
theorem dX7_row_176 : decode cX7_row 176 = .ok (.getfield 148, 3) := by decide +kernel
theorem dX7_row_179 : decode cX7_row 179 = .ok (.iastore, 1) := by decide +kernel
theorem dX7_row_180 : decode cX7_row 180 = .ok (.aload_n 0, 1) := by decide +kernel
theorem dX7_row_181 : decode cX7_row 181 = .ok (.dup, 1) := by decide +kernel
theorem dX7_row_182 : decode cX7_row 182 = .ok (.getfield 155, 3) := by decide +kernel
theorem dX7_row_185 : decode cX7_row 185 = .ok (.iconst 1, 1) := by decide +kernel
theorem dX7_row_186 : decode cX7_row 186 = .ok (.iadd, 1) := by decide +kernel
theorem dX7_row_187 : decode cX7_row 187 = .ok (.putfield 155, 3) := by decide +kernel
theorem dX7_row_190 : decode cX7_row 190 = .ok (.iconst 1, 1) := by decide +kernel
theorem dX7_row_191 : decode cX7_row 191 = .ok (.ireturn, 1) := by decide +kernel
set_option maxRecDepth 20000 in
theorem ggX7_isRight_X7_row : GoodIn wsX7_isRight wsX7_row := goodIn_r _ [9, 2, 3, 10, 11, 1, 12, 13, 14, 15, 8, 16, 17, 18, 19, 20, 4, 21, 22, 23, 24, 25, 26, 27, 28, 29, 30, 31, 32, 33, 34, 35, 36, 37, 38, 39, 40, 41, 42, 43, 44, 45, 46, 47, 48, 49, 50, 51] (by decide +kernel) (by decide +kernel)
set_option maxRecDepth 20000 in
theorem gX7_isRight_X7_row : GoodIn wsX7_isRight (wsV RX7 164 RX7 yX7_row wsX7_row) := goodIn_app (goodIn_of _ (by decide +kernel)) ggX7_isRight_X7_row
set_option maxRecDepth 20000 in
theorem ggX7_isRight_X7_isAt : GoodIn wsX7_isRight wsX7_isAt := goodIn_r _ [20, 1, 4, 21, 22, 23, 8, 24, 34, 35, 36, 37, 38, 39, 40, 41, 42, 43, 44, 45, 46, 47, 48, 49, 50, 51] (by decide +kernel) (by decide +kernel)
set_option maxRecDepth 20000 in
theorem gX7_isRight_X7_isAt : GoodIn wsX7_isRight (wsV RX7 141 RX7 yX7_isAt wsX7_isAt) := goodIn_app (goodIn_of _ (by decide +kernel)) ggX7_isRight_X7_isAt
set_option maxRecDepth 20000 in
theorem ggX7_isRight_X7_fails : GoodIn wsX7_isRight wsX7_fails := goodIn_r _ [32, 33, 34, 35, 36, 37, 38, 39, 40, 41, 42, 43, 44, 45, 46, 47, 48, 49, 50, 51] (by decide +kernel) (by decide +kernel)
set_option maxRecDepth 20000 in
theorem gX7_isRight_X7_fails : GoodIn wsX7_isRight (wsV RX7 145 RX7 yX7_fails wsX7_fails) := goodIn_app (goodIn_of _ (by decide +kernel)) ggX7_isRight_X7_fails
theorem dX7_isRight_0 : decode cX7_isRight 0 = .ok (.aload_n 0, 1) := by decide +kernel
theorem dX7_isRight_1 : decode cX7_isRight 1 = .ok (.iconst 0, 1) := by decide +kernel
theorem dX7_isRight_2 : decode cX7_isRight 2 = .ok (.putfield 135, 3) := by decide +kernel
theorem dX7_isRight_5 : decode cX7_isRight 5 = .ok (.aload_n 0, 1) := by decide +kernel
theorem dX7_isRight_6 : decode cX7_isRight 6 = .ok (.iconst 0, 1) := by decide +kernel
theorem dX7_isRight_7 : decode cX7_isRight 7 = .ok (.putfield 155, 3) := by decide +kernel
theorem dX7_isRight_10 : decode cX7_isRight 10 = .ok (.aload_n 0, 1) := by decide +kernel
theorem dX7_isRight_11 : decode cX7_isRight 11 = .ok (.bipush 7, 2) := by decide +kernel
theorem dX7_isRight_13 : decode cX7_isRight 13 = .ok (.putfield 158, 3) := by decide +kernel
theorem dX7_isRight_16 : decode cX7_isRight 16 = .ok (.aload_n 0, 1) := by decide +kernel
theorem dX7_isRight_17 : decode cX7_isRight 17 = .ok (.invokevirtual 164, 3) := by decide +kernel
theorem dX7_isRight_20 : decode cX7_isRight 20 = .ok (.istore_n 1, 1) := by decide +kernel
theorem dX7_isRight_21 : decode cX7_isRight 21 = .ok (.iload_n 1, 1) := by decide +kernel
theorem dX7_isRight_22 : decode cX7_isRight 22 = .ok (.ifCond .eq 64, 3) := by decide +kernel
theorem dX7_isRight_25 : decode cX7_isRight 25 = .ok (.aload_n 0, 1) := by decide +kernel
theorem dX7_isRight_26 : decode cX7_isRight 26 = .ok (.getfield 135, 3) := by decide +kernel
theorem dX7_isRight_29 : decode cX7_isRight 29 = .ok (.aload_n 0, 1) := by decide +kernel
theorem dX7_isRight_30 : decode cX7_isRight 30 = .ok (.getfield 132, 3) := by decide +kernel
theorem dX7_isRight_33 : decode cX7_isRight 33 = .ok (.if_icmp .ge 53, 3) := by decide +kernel
theorem dX7_isRight_36 : decode cX7_isRight 36 = .ok (.aload_n 0, 1) := by decide +kernel
theorem dX7_isRight_37 : decode cX7_isRight 37 = .ok (.bipush 59, 2) := by decide +kernel
theorem dX7_isRight_39 : decode cX7_isRight 39 = .ok (.bipush 59, 2) := by decide +kernel
theorem dX7_isRight_41 : decode cX7_isRight 41 = .ok (.invokevirtual 141, 3) := by decide +kernel
theorem dX7_isRight_44 : decode cX7_isRight 44 = .ok (.ifCond .ne 9, 3) := by decide +kernel
theorem dX7_isRight_47 : decode cX7_isRight 47 = .ok (.aload_n 0, 1) := by decide +kernel
theorem dX7_isRight_48 : decode cX7_isRight 48 = .ok (.iconst 1, 1) := by decide +kernel
theorem dX7_isRight_49 : decode cX7_isRight 49 = .ok (.invokevirtual 145, 3) := by decide +kernel
theorem dX7_isRight_52 : decode cX7_isRight 52 = .ok (.ireturn, 1) := by decide +kernel
theorem dX7_isRight_53 : decode cX7_isRight 53 = .ok (.aload_n 0, 1) := by decide +kernel
theorem dX7_isRight_54 : decode cX7_isRight 54 = .ok (.getfield 155, 3) := by decide +kernel
theorem dX7_isRight_57 : decode cX7_isRight 57 = .ok (.bipush 7, 2) := by decide +kernel
theorem dX7_isRight_59 : decode cX7_isRight 59 = .ok (.if_icmp .ne 9, 3) := by decide +kernel
theorem dX7_isRight_62 : decode cX7_isRight 62 = .ok (.aload_n 0, 1) := by decide +kernel
theorem dX7_isRight_63 : decode cX7_isRight 63 = .ok (.iconst 2, 1) := by decide +kernel
theorem dX7_isRight_64 : decode cX7_isRight 64 = .ok (.invokevirtual 145, 3) := by decide +kernel
theorem dX7_isRight_67 : decode cX7_isRight 67 = .ok (.ireturn, 1) := by decide +kernel
theorem dX7_isRight_68 : decode cX7_isRight 68 = .ok (.aload_n 0, 1) := by decide +kernel
theorem dX7_isRight_69 : decode cX7_isRight 69 = .ok (.dup, 1) := by decide +kernel
theorem dX7_isRight_70 : decode cX7_isRight 70 = .ok (.getfield 135, 3) := by decide +kernel
theorem dX7_isRight_73 : decode cX7_isRight 73 = .ok (.iconst 1, 1) := by decide +kernel
theorem dX7_isRight_74 : decode cX7_isRight 74 = .ok (.iadd, 1) := by decide +kernel
theorem dX7_isRight_75 : decode cX7_isRight 75 = .ok (.putfield 135, 3) := by decide +kernel
theorem dX7_isRight_78 : decode cX7_isRight 78 = .ok (.aload_n 0, 1) := by decide +kernel
theorem dX7_isRight_79 : decode cX7_isRight 79 = .ok (.invokevirtual 164, 3) := by decide +kernel
theorem dX7_isRight_82 : decode cX7_isRight 82 = .ok (.istore_n 1, 1) := by decide +kernel
theorem dX7_isRight_83 : decode cX7_isRight 83 = .ok (.goto (-62), 3) := by decide +kernel
theorem dX7_isRight_86 : decode cX7_isRight 86 = .ok (.iload_n 1, 1) := by decide +kernel
theorem dX7_isRight_87 : decode cX7_isRight 87 = .ok (.ireturn, 1) := by decide +kernel
set_option maxRecDepth 20000 in
theorem ggX7_fault_X7_in : GoodIn wsX7_fault wsX7_in := goodIn_r _ [6] (by decide +kernel) (by decide +kernel)
set_option maxRecDepth 20000 in
theorem gX7_fault_X7_in : GoodIn wsX7_fault (va_wsS RX7 68 yX7_in wsX7_in) := goodIn_app (goodIn_of _ (by decide +kernel)) ggX7_fault_X7_in
set_option maxRecDepth 20000 in
theorem ggX7_fault_X7_isRight : GoodIn wsX7_fault wsX7_isRight := goodIn_r _ [10, 1, 11, 12, 13, 14, 15, 16, 5, 17, 18, 19, 20, 21, 22, 23, 24, 25, 26, 27, 28, 29, 3, 4, 6, 30, 31, 32, 33, 34, 35, 36, 37, 2, 38, 39, 40, 41, 42, 43, 44, 45, 46, 47, 48, 49, 50, 51, 52, 53, 54, 55] (by decide +kernel) (by decide +kernel)
set_option maxRecDepth 20000 in
theorem gX7_fault_X7_isRight : GoodIn wsX7_fault (wsV RX7 167 RX7 yX7_isRight wsX7_isRight) := goodIn_app (goodIn_of _ (by decide +kernel)) ggX7_fault_X7_isRight
theorem dX7_fault_0 : decode cX7_fault 0 = .ok (.iload_n 1, 1) := by decide +kernel
theorem dX7_fault_1 : decode cX7_fault 1 = .ok (.iconst 0, 1) := by decide +kernel
theorem dX7_fault_2 : decode cX7_fault 2 = .ok (.iconst 1, 1) := by decide +kernel
theorem dX7_fault_3 : decode cX7_fault 3 = .ok (.invokestatic 68, 3) := by decide +kernel
theorem dX7_fault_6 : decode cX7_fault 6 = .ok (.ifCond .ne 5, 3) := by decide +kernel
theorem dX7_fault_9 : decode cX7_fault 9 = .ok (.iconst (-1), 1) := by decide +kernel
theorem dX7_fault_10 : decode cX7_fault 10 = .ok (.ireturn, 1) := by decide +kernel
theorem dX7_fault_11 : decode cX7_fault 11 = .ok (.aload_n 0, 1) := by decide +kernel
theorem dX7_fault_12 : decode cX7_fault 12 = .ok (.invokevirtual 167, 3) := by decide +kernel
theorem dX7_fault_15 : decode cX7_fault 15 = .ok (.ifCond .eq 8, 3) := by decide +kernel
theorem dX7_fault_18 : decode cX7_fault 18 = .ok (.bipush (-4), 2) := by decide +kernel
theorem dX7_fault_20 : decode cX7_fault 20 = .ok (.goto 18, 3) := by decide +kernel
theorem dX7_fault_23 : decode cX7_fault 23 = .ok (.iload_n 1, 1) := by decide +kernel
theorem dX7_fault_24 : decode cX7_fault 24 = .ok (.ifCond .ne 10, 3) := by decide +kernel
theorem dX7_fault_27 : decode cX7_fault 27 = .ok (.aload_n 0, 1) := by decide +kernel
theorem dX7_fault_28 : decode cX7_fault 28 = .ok (.getfield 135, 3) := by decide +kernel
theorem dX7_fault_31 : decode cX7_fault 31 = .ok (.goto 7, 3) := by decide +kernel
theorem dX7_fault_34 : decode cX7_fault 34 = .ok (.aload_n 0, 1) := by decide +kernel
theorem dX7_fault_35 : decode cX7_fault 35 = .ok (.getfield 138, 3) := by decide +kernel
theorem dX7_fault_38 : decode cX7_fault 38 = .ok (.ireturn, 1) := by decide +kernel
set_option maxRecDepth 20000 in
theorem ggX7_read_X7_isRight : GoodIn wsX7_read wsX7_isRight := goodIn_r _ [10, 11, 2, 3, 12, 13, 14, 15, 9, 16, 5, 17, 4, 18, 19, 20, 21, 22, 23, 24, 25, 26, 27, 28, 29, 30, 31, 32, 33, 34, 35, 36, 37, 38, 74, 75, 76, 77, 78, 79, 80, 81, 82, 83, 84, 85, 86, 87, 88, 89, 90, 91] (by decide +kernel) (by decide +kernel)
set_option maxRecDepth 20000 in
theorem gX7_read_X7_isRight : GoodIn wsX7_read (wsV RX7 167 RX7 yX7_isRight wsX7_isRight) := goodIn_app (goodIn_of _ (by decide +kernel)) ggX7_read_X7_isRight
set_option maxRecDepth 20000 in
theorem ggX7_read_X7_changes : GoodIn wsX7_read wsX7_changes := goodIn_r _ [42, 43, 44, 1, 74, 75, 76, 77, 78, 79, 80, 81, 82, 83, 84, 85, 86, 87, 88, 89, 90, 91] (by decide +kernel) (by decide +kernel)
set_option maxRecDepth 20000 in
theorem gX7_read_X7_changes : GoodIn wsX7_read (wsV RX7 72 RX7 yX7_changes wsX7_changes) := goodIn_app (goodIn_of _ (by decide +kernel)) ggX7_read_X7_changes
set_option maxRecDepth 20000 in
theorem ggX7_read_X7_leastTotal : GoodIn wsX7_read wsX7_leastTotal := goodIn_r _ [48, 49, 50, 51, 9, 52, 1, 53, 54, 55, 56, 57, 58, 59, 60, 61, 62, 63, 64, 65, 66, 67, 68, 69, 70, 71, 72, 73, 74, 75, 76, 77, 78, 79, 80, 81, 82, 83, 84, 85, 86, 87, 88, 89, 90, 91] (by decide +kernel) (by decide +kernel)
set_option maxRecDepth 20000 in
theorem gX7_read_X7_leastTotal : GoodIn wsX7_read (wsV RX7 65 RX7 yX7_leastTotal wsX7_leastTotal) := goodIn_app (goodIn_of _ (by decide +kernel)) ggX7_read_X7_leastTotal
theorem dX7_read_0 : decode cX7_read 0 = .ok (.aload_n 0, 1) := by decide +kernel
theorem dX7_read_1 : decode cX7_read 1 = .ok (.invokevirtual 167, 3) := by decide +kernel
theorem dX7_read_4 : decode cX7_read 4 = .ok (.ifCond .ne 6, 3) := by decide +kernel
theorem dX7_read_7 : decode cX7_read 7 = .ok (.bipush (-2), 2) := by decide +kernel
theorem dX7_read_9 : decode cX7_read 9 = .ok (.ireturn, 1) := by decide +kernel
theorem dX7_read_10 : decode cX7_read 10 = .ok (.aload_n 0, 1) := by decide +kernel
theorem dX7_read_11 : decode cX7_read 11 = .ok (.invokevirtual 72, 3) := by decide +kernel
theorem dX7_read_14 : decode cX7_read 14 = .ok (.aload_n 0, 1) := by decide +kernel
theorem dX7_read_15 : decode cX7_read 15 = .ok (.getfield 7, 3) := by decide +kernel
theorem dX7_read_18 : decode cX7_read 18 = .ok (.iconst 0, 1) := by decide +kernel
theorem dX7_read_19 : decode cX7_read 19 = .ok (.aload_n 0, 1) := by decide +kernel
theorem dX7_read_20 : decode cX7_read 20 = .ok (.getfield 155, 3) := by decide +kernel
theorem dX7_read_23 : decode cX7_read 23 = .ok (.iastore, 1) := by decide +kernel
theorem dX7_read_24 : decode cX7_read 24 = .ok (.aload_n 0, 1) := by decide +kernel
theorem dX7_read_25 : decode cX7_read 25 = .ok (.getfield 7, 3) := by decide +kernel
theorem dX7_read_28 : decode cX7_read 28 = .ok (.iconst 1, 1) := by decide +kernel
theorem dX7_read_29 : decode cX7_read 29 = .ok (.aload_n 0, 1) := by decide +kernel
theorem dX7_read_30 : decode cX7_read 30 = .ok (.getfield 158, 3) := by decide +kernel
theorem dX7_read_33 : decode cX7_read 33 = .ok (.iastore, 1) := by decide +kernel
theorem dX7_read_34 : decode cX7_read 34 = .ok (.iconst 0, 1) := by decide +kernel
theorem dX7_read_35 : decode cX7_read 35 = .ok (.istore_n 1, 1) := by decide +kernel
theorem dX7_read_36 : decode cX7_read 36 = .ok (.iload_n 1, 1) := by decide +kernel
theorem dX7_read_37 : decode cX7_read 37 = .ok (.aload_n 0, 1) := by decide +kernel
theorem dX7_read_38 : decode cX7_read 38 = .ok (.getfield 155, 3) := by decide +kernel
theorem dX7_read_41 : decode cX7_read 41 = .ok (.if_icmp .ge 74, 3) := by decide +kernel
theorem dX7_read_44 : decode cX7_read 44 = .ok (.aload_n 0, 1) := by decide +kernel
theorem dX7_read_45 : decode cX7_read 45 = .ok (.getfield 7, 3) := by decide +kernel
theorem dX7_read_48 : decode cX7_read 48 = .ok (.iconst 2, 1) := by decide +kernel
theorem dX7_read_49 : decode cX7_read 49 = .ok (.iload_n 1, 1) := by decide +kernel
theorem dX7_read_50 : decode cX7_read 50 = .ok (.iadd, 1) := by decide +kernel
theorem dX7_read_51 : decode cX7_read 51 = .ok (.aload_n 0, 1) := by decide +kernel
theorem dX7_read_52 : decode cX7_read 52 = .ok (.getfield 41, 3) := by decide +kernel
theorem dX7_read_55 : decode cX7_read 55 = .ok (.iload_n 1, 1) := by decide +kernel
theorem dX7_read_56 : decode cX7_read 56 = .ok (.iaload, 1) := by decide +kernel
theorem dX7_read_57 : decode cX7_read 57 = .ok (.iastore, 1) := by decide +kernel
theorem dX7_read_58 : decode cX7_read 58 = .ok (.iconst 0, 1) := by decide +kernel
theorem dX7_read_59 : decode cX7_read 59 = .ok (.istore_n 2, 1) := by decide +kernel
theorem dX7_read_60 : decode cX7_read 60 = .ok (.iload_n 2, 1) := by decide +kernel
theorem dX7_read_61 : decode cX7_read 61 = .ok (.bipush 7, 2) := by decide +kernel
theorem dX7_read_63 : decode cX7_read 63 = .ok (.if_icmp .ge 46, 3) := by decide +kernel
theorem dX7_read_66 : decode cX7_read 66 = .ok (.aload_n 0, 1) := by decide +kernel
theorem dX7_read_67 : decode cX7_read 67 = .ok (.getfield 7, 3) := by decide +kernel
theorem dX7_read_70 : decode cX7_read 70 = .ok (.bipush 9, 2) := by decide +kernel
theorem dX7_read_72 : decode cX7_read 72 = .ok (.bipush 7, 2) := by decide +kernel
theorem dX7_read_74 : decode cX7_read 74 = .ok (.iload_n 1, 1) := by decide +kernel
theorem dX7_read_75 : decode cX7_read 75 = .ok (.imul, 1) := by decide +kernel
theorem dX7_read_76 : decode cX7_read 76 = .ok (.iadd, 1) := by decide +kernel
theorem dX7_read_77 : decode cX7_read 77 = .ok (.iload_n 2, 1) := by decide +kernel
theorem dX7_read_78 : decode cX7_read 78 = .ok (.iadd, 1) := by decide +kernel
theorem dX7_read_79 : decode cX7_read 79 = .ok (.iload_n 2, 1) := by decide +kernel
theorem dX7_read_80 : decode cX7_read 80 = .ok (.aload_n 0, 1) := by decide +kernel
theorem dX7_read_81 : decode cX7_read 81 = .ok (.getfield 158, 3) := by decide +kernel
theorem dX7_read_84 : decode cX7_read 84 = .ok (.if_icmp .ge 17, 3) := by decide +kernel
theorem dX7_read_87 : decode cX7_read 87 = .ok (.aload_n 0, 1) := by decide +kernel
theorem dX7_read_88 : decode cX7_read 88 = .ok (.getfield 38, 3) := by decide +kernel
theorem dX7_read_91 : decode cX7_read 91 = .ok (.bipush 7, 2) := by decide +kernel
theorem dX7_read_93 : decode cX7_read 93 = .ok (.iload_n 1, 1) := by decide +kernel
theorem dX7_read_94 : decode cX7_read 94 = .ok (.imul, 1) := by decide +kernel
theorem dX7_read_95 : decode cX7_read 95 = .ok (.iload_n 2, 1) := by decide +kernel
theorem dX7_read_96 : decode cX7_read 96 = .ok (.iadd, 1) := by decide +kernel
theorem dX7_read_97 : decode cX7_read 97 = .ok (.iaload, 1) := by decide +kernel
theorem dX7_read_98 : decode cX7_read 98 = .ok (.goto 4, 3) := by decide +kernel
theorem dX7_read_101 : decode cX7_read 101 = .ok (.iconst (-1), 1) := by decide +kernel
theorem dX7_read_102 : decode cX7_read 102 = .ok (.iastore, 1) := by decide +kernel
theorem dX7_read_103 : decode cX7_read 103 = .ok (.iinc 2 1, 3) := by decide +kernel
theorem dX7_read_106 : decode cX7_read 106 = .ok (.goto (-46), 3) := by decide +kernel
theorem dX7_read_109 : decode cX7_read 109 = .ok (.iinc 1 1, 3) := by decide +kernel
theorem dX7_read_112 : decode cX7_read 112 = .ok (.goto (-76), 3) := by decide +kernel
theorem dX7_read_115 : decode cX7_read 115 = .ok (.aload_n 0, 1) := by decide +kernel
theorem dX7_read_116 : decode cX7_read 116 = .ok (.invokevirtual 65, 3) := by decide +kernel
theorem dX7_read_119 : decode cX7_read 119 = .ok (.ireturn, 1) := by decide +kernel
