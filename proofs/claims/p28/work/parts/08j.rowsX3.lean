set_option maxRecDepth 20000 in
theorem ggX3_init_X4_init : GoodIn wsX3_init wsX4_init := goodIn_r _ [11, 12, 2, 3, 13, 14, 15, 16, 21, 22, 23, 24] (by decide +kernel) (by decide +kernel)
set_option maxRecDepth 20000 in
theorem gX3_init_X4_init : GoodIn wsX3_init (wsX4_init) := ggX3_init_X4_init
theorem dX3_init_0 : decode cX3_init 0 = .ok (.aload_n 0, 1) := by decide +kernel
theorem dX3_init_1 : decode cX3_init 1 = .ok (.invokespecial 3, 3) := by decide +kernel
theorem dX3_init_4 : decode cX3_init 4 = .ok (.aload_n 0, 1) := by decide +kernel
theorem dX3_init_5 : decode cX3_init 5 = .ok (.aload_n 1, 1) := by decide +kernel
theorem dX3_init_6 : decode cX3_init 6 = .ok (.putfield 9, 3) := by decide +kernel
theorem dX3_init_9 : decode cX3_init 9 = .ok (.aload_n 0, 1) := by decide +kernel
theorem dX3_init_10 : decode cX3_init 10 = .ok (.new 15, 3) := by decide +kernel
theorem dX3_init_13 : decode cX3_init 13 = .ok (.dup, 1) := by decide +kernel
theorem dX3_init_14 : decode cX3_init 14 = .ok (.invokespecial 17, 3) := by decide +kernel
theorem dX3_init_17 : decode cX3_init 17 = .ok (.putfield 18, 3) := by decide +kernel
theorem dX3_init_20 : decode cX3_init 20 = .ok (.return_, 1) := by decide +kernel
set_option maxRecDepth 20000 in
theorem ggX3_readText_X3_readRow : GoodIn wsX3_readText wsX3_readRow := goodIn_r _ [11, 2, 3, 12, 13, 14, 15, 16, 10, 17, 18, 5, 1, 19, 20, 21, 22, 23, 24, 25, 26, 27, 28, 29, 30, 31, 32, 33, 34, 35, 36, 37, 38, 39, 40, 41, 42, 43, 44, 45, 46, 47, 48, 49, 50, 51] (by decide +kernel) (by decide +kernel)
set_option maxRecDepth 20000 in
theorem gX3_readText_X3_readRow : GoodIn wsX3_readText (wsV RX3 29 RX3 yX3_readRow wsX3_readRow) := goodIn_app (goodIn_of _ (by decide +kernel)) ggX3_readText_X3_readRow
set_option maxRecDepth 20000 in
theorem ggX3_readText_X3_step : GoodIn wsX3_readText wsX3_step := goodIn_r _ [41, 5, 1, 2, 23, 24, 25, 26, 27, 28, 29, 42, 43, 44, 45, 50, 51] (by decide +kernel) (by decide +kernel)
set_option maxRecDepth 20000 in
theorem gX3_readText_X3_step : GoodIn wsX3_readText (wsV RX3 41 RX3 yX3_step wsX3_step) := goodIn_app (goodIn_of _ (by decide +kernel)) ggX3_readText_X3_step
theorem dX3_readText_0 : decode cX3_readText 0 = .ok (.aload_n 0, 1) := by decide +kernel
theorem dX3_readText_1 : decode cX3_readText 1 = .ok (.iconst 0, 1) := by decide +kernel
theorem dX3_readText_2 : decode cX3_readText 2 = .ok (.putfield 22, 3) := by decide +kernel
theorem dX3_readText_5 : decode cX3_readText 5 = .ok (.aload_n 0, 1) := by decide +kernel
theorem dX3_readText_6 : decode cX3_readText 6 = .ok (.iconst 0, 1) := by decide +kernel
theorem dX3_readText_7 : decode cX3_readText 7 = .ok (.putfield 26, 3) := by decide +kernel
theorem dX3_readText_10 : decode cX3_readText 10 = .ok (.iconst 0, 1) := by decide +kernel
theorem dX3_readText_11 : decode cX3_readText 11 = .ok (.istore_n 1, 1) := by decide +kernel
theorem dX3_readText_12 : decode cX3_readText 12 = .ok (.iconst 0, 1) := by decide +kernel
theorem dX3_readText_13 : decode cX3_readText 13 = .ok (.istore_n 2, 1) := by decide +kernel
theorem dX3_readText_14 : decode cX3_readText 14 = .ok (.iload_n 2, 1) := by decide +kernel
theorem dX3_readText_15 : decode cX3_readText 15 = .ok (.bipush 7, 2) := by decide +kernel
theorem dX3_readText_17 : decode cX3_readText 17 = .ok (.if_icmp .ge 91, 3) := by decide +kernel
theorem dX3_readText_20 : decode cX3_readText 20 = .ok (.iload_n 1, 1) := by decide +kernel
theorem dX3_readText_21 : decode cX3_readText 21 = .ok (.ifCond .ne 87, 3) := by decide +kernel
theorem dX3_readText_24 : decode cX3_readText 24 = .ok (.aload_n 0, 1) := by decide +kernel
theorem dX3_readText_25 : decode cX3_readText 25 = .ok (.iload_n 2, 1) := by decide +kernel
theorem dX3_readText_26 : decode cX3_readText 26 = .ok (.invokevirtual 29, 3) := by decide +kernel
theorem dX3_readText_29 : decode cX3_readText 29 = .ok (.aload_n 0, 1) := by decide +kernel
theorem dX3_readText_30 : decode cX3_readText 30 = .ok (.getfield 18, 3) := by decide +kernel
theorem dX3_readText_33 : decode cX3_readText 33 = .ok (.iload_n 2, 1) := by decide +kernel
theorem dX3_readText_34 : decode cX3_readText 34 = .ok (.iconst 1, 1) := by decide +kernel
theorem dX3_readText_35 : decode cX3_readText 35 = .ok (.iadd, 1) := by decide +kernel
theorem dX3_readText_36 : decode cX3_readText 36 = .ok (.putfield 33, 3) := by decide +kernel
theorem dX3_readText_39 : decode cX3_readText 39 = .ok (.aload_n 0, 1) := by decide +kernel
theorem dX3_readText_40 : decode cX3_readText 40 = .ok (.getfield 26, 3) := by decide +kernel
theorem dX3_readText_43 : decode cX3_readText 43 = .ok (.ifCond .ne 17, 3) := by decide +kernel
theorem dX3_readText_46 : decode cX3_readText 46 = .ok (.aload_n 0, 1) := by decide +kernel
theorem dX3_readText_47 : decode cX3_readText 47 = .ok (.getfield 22, 3) := by decide +kernel
theorem dX3_readText_50 : decode cX3_readText 50 = .ok (.aload_n 0, 1) := by decide +kernel
theorem dX3_readText_51 : decode cX3_readText 51 = .ok (.getfield 9, 3) := by decide +kernel
theorem dX3_readText_54 : decode cX3_readText 54 = .ok (.getfield 36, 3) := by decide +kernel
theorem dX3_readText_57 : decode cX3_readText 57 = .ok (.if_icmp .ne 7, 3) := by decide +kernel
theorem dX3_readText_60 : decode cX3_readText 60 = .ok (.iconst 1, 1) := by decide +kernel
theorem dX3_readText_61 : decode cX3_readText 61 = .ok (.goto 4, 3) := by decide +kernel
theorem dX3_readText_64 : decode cX3_readText 64 = .ok (.iconst 0, 1) := by decide +kernel
theorem dX3_readText_65 : decode cX3_readText 65 = .ok (.istore_n 1, 1) := by decide +kernel
theorem dX3_readText_66 : decode cX3_readText 66 = .ok (.iload_n 1, 1) := by decide +kernel
theorem dX3_readText_67 : decode cX3_readText 67 = .ok (.ifCond .ne 35, 3) := by decide +kernel
theorem dX3_readText_70 : decode cX3_readText 70 = .ok (.aload_n 0, 1) := by decide +kernel
theorem dX3_readText_71 : decode cX3_readText 71 = .ok (.bipush 59, 2) := by decide +kernel
theorem dX3_readText_73 : decode cX3_readText 73 = .ok (.iload_n 2, 1) := by decide +kernel
theorem dX3_readText_74 : decode cX3_readText 74 = .ok (.iconst 1, 1) := by decide +kernel
theorem dX3_readText_75 : decode cX3_readText 75 = .ok (.iadd, 1) := by decide +kernel
theorem dX3_readText_76 : decode cX3_readText 76 = .ok (.bipush 7, 2) := by decide +kernel
theorem dX3_readText_78 : decode cX3_readText 78 = .ok (.if_icmp .ge 7, 3) := by decide +kernel
theorem dX3_readText_81 : decode cX3_readText 81 = .ok (.iconst 1, 1) := by decide +kernel
theorem dX3_readText_82 : decode cX3_readText 82 = .ok (.goto 4, 3) := by decide +kernel
theorem dX3_readText_85 : decode cX3_readText 85 = .ok (.iconst 0, 1) := by decide +kernel
theorem dX3_readText_86 : decode cX3_readText 86 = .ok (.invokevirtual 41, 3) := by decide +kernel
theorem dX3_readText_89 : decode cX3_readText 89 = .ok (.aload_n 0, 1) := by decide +kernel
theorem dX3_readText_90 : decode cX3_readText 90 = .ok (.getfield 26, 3) := by decide +kernel
theorem dX3_readText_93 : decode cX3_readText 93 = .ok (.ifCond .eq 7, 3) := by decide +kernel
theorem dX3_readText_96 : decode cX3_readText 96 = .ok (.iconst 1, 1) := by decide +kernel
theorem dX3_readText_97 : decode cX3_readText 97 = .ok (.goto 4, 3) := by decide +kernel
theorem dX3_readText_100 : decode cX3_readText 100 = .ok (.iconst 0, 1) := by decide +kernel
theorem dX3_readText_101 : decode cX3_readText 101 = .ok (.istore_n 1, 1) := by decide +kernel
theorem dX3_readText_102 : decode cX3_readText 102 = .ok (.iinc 2 1, 3) := by decide +kernel
theorem dX3_readText_105 : decode cX3_readText 105 = .ok (.goto (-91), 3) := by decide +kernel
theorem dX3_readText_108 : decode cX3_readText 108 = .ok (.return_, 1) := by decide +kernel
set_option maxRecDepth 20000 in
theorem ggX3_readRow_X3_readEntries : GoodIn wsX3_readRow wsX3_readEntries := goodIn_r _ [9, 2, 3, 10, 1, 11, 12, 13, 14, 15, 8, 16, 17, 18, 19, 20, 21, 22, 23, 24, 25, 26, 27, 28, 29, 30, 31, 32, 33, 34, 35, 36, 37, 38, 39, 40, 41, 42, 43, 44, 45] (by decide +kernel) (by decide +kernel)
set_option maxRecDepth 20000 in
theorem gX3_readRow_X3_readEntries : GoodIn wsX3_readRow (wsV RX3 45 RX3 yX3_readEntries wsX3_readEntries) := goodIn_app (goodIn_of _ (by decide +kernel)) ggX3_readRow_X3_readEntries
set_option maxRecDepth 20000 in
theorem ggX3_readRow_X3_step : GoodIn wsX3_readRow wsX3_step := goodIn_r _ [35, 11, 12, 1, 17, 18, 19, 20, 21, 22, 23, 36, 37, 38, 39, 44, 45] (by decide +kernel) (by decide +kernel)
set_option maxRecDepth 20000 in
theorem gX3_readRow_X3_step : GoodIn wsX3_readRow (wsV RX3 41 RX3 yX3_step wsX3_step) := goodIn_app (goodIn_of _ (by decide +kernel)) ggX3_readRow_X3_step
set_option maxRecDepth 20000 in
theorem ggX3_readRow_X3_readNumber : GoodIn wsX3_readRow wsX3_readNumber := goodIn_r _ [27, 11, 12, 1, 28, 29, 30, 20, 31, 22, 23, 36, 37, 38, 39, 44, 45] (by decide +kernel) (by decide +kernel)
set_option maxRecDepth 20000 in
theorem gX3_readRow_X3_readNumber : GoodIn wsX3_readRow (wsV RX3 56 RX3 yX3_readNumber wsX3_readNumber) := goodIn_app (goodIn_of _ (by decide +kernel)) ggX3_readRow_X3_readNumber
theorem dX3_readRow_0 : decode cX3_readRow 0 = .ok (.aload_n 0, 1) := by decide +kernel
theorem dX3_readRow_1 : decode cX3_readRow 1 = .ok (.iload_n 1, 1) := by decide +kernel
theorem dX3_readRow_2 : decode cX3_readRow 2 = .ok (.invokevirtual 45, 3) := by decide +kernel
theorem dX3_readRow_5 : decode cX3_readRow 5 = .ok (.istore_n 2, 1) := by decide +kernel
theorem dX3_readRow_6 : decode cX3_readRow 6 = .ok (.aload_n 0, 1) := by decide +kernel
theorem dX3_readRow_7 : decode cX3_readRow 7 = .ok (.getfield 26, 3) := by decide +kernel
theorem dX3_readRow_10 : decode cX3_readRow 10 = .ok (.ifCond .ne 29, 3) := by decide +kernel
theorem dX3_readRow_13 : decode cX3_readRow 13 = .ok (.aload_n 0, 1) := by decide +kernel
theorem dX3_readRow_14 : decode cX3_readRow 14 = .ok (.bipush 47, 2) := by decide +kernel
theorem dX3_readRow_16 : decode cX3_readRow 16 = .ok (.iload_n 1, 1) := by decide +kernel
theorem dX3_readRow_17 : decode cX3_readRow 17 = .ok (.ifCond .eq 14, 3) := by decide +kernel
theorem dX3_readRow_20 : decode cX3_readRow 20 = .ok (.iload_n 2, 1) := by decide +kernel
theorem dX3_readRow_21 : decode cX3_readRow 21 = .ok (.aload_n 0, 1) := by decide +kernel
theorem dX3_readRow_22 : decode cX3_readRow 22 = .ok (.getfield 18, 3) := by decide +kernel
theorem dX3_readRow_25 : decode cX3_readRow 25 = .ok (.getfield 49, 3) := by decide +kernel
theorem dX3_readRow_28 : decode cX3_readRow 28 = .ok (.if_icmp .ne 7, 3) := by decide +kernel
theorem dX3_readRow_31 : decode cX3_readRow 31 = .ok (.iconst 1, 1) := by decide +kernel
theorem dX3_readRow_32 : decode cX3_readRow 32 = .ok (.goto 4, 3) := by decide +kernel
theorem dX3_readRow_35 : decode cX3_readRow 35 = .ok (.iconst 0, 1) := by decide +kernel
theorem dX3_readRow_36 : decode cX3_readRow 36 = .ok (.invokevirtual 41, 3) := by decide +kernel
theorem dX3_readRow_39 : decode cX3_readRow 39 = .ok (.aload_n 0, 1) := by decide +kernel
theorem dX3_readRow_40 : decode cX3_readRow 40 = .ok (.getfield 26, 3) := by decide +kernel
theorem dX3_readRow_43 : decode cX3_readRow 43 = .ok (.ifCond .ne 16, 3) := by decide +kernel
theorem dX3_readRow_46 : decode cX3_readRow 46 = .ok (.aload_n 0, 1) := by decide +kernel
theorem dX3_readRow_47 : decode cX3_readRow 47 = .ok (.getfield 18, 3) := by decide +kernel
theorem dX3_readRow_50 : decode cX3_readRow 50 = .ok (.getfield 52, 3) := by decide +kernel
theorem dX3_readRow_53 : decode cX3_readRow 53 = .ok (.iload_n 1, 1) := by decide +kernel
theorem dX3_readRow_54 : decode cX3_readRow 54 = .ok (.aload_n 0, 1) := by decide +kernel
theorem dX3_readRow_55 : decode cX3_readRow 55 = .ok (.invokevirtual 56, 3) := by decide +kernel
theorem dX3_readRow_58 : decode cX3_readRow 58 = .ok (.iastore, 1) := by decide +kernel
theorem dX3_readRow_59 : decode cX3_readRow 59 = .ok (.iload_n 1, 1) := by decide +kernel
theorem dX3_readRow_60 : decode cX3_readRow 60 = .ok (.ifCond .ne 11, 3) := by decide +kernel
theorem dX3_readRow_63 : decode cX3_readRow 63 = .ok (.aload_n 0, 1) := by decide +kernel
theorem dX3_readRow_64 : decode cX3_readRow 64 = .ok (.getfield 18, 3) := by decide +kernel
theorem dX3_readRow_67 : decode cX3_readRow 67 = .ok (.iload_n 2, 1) := by decide +kernel
theorem dX3_readRow_68 : decode cX3_readRow 68 = .ok (.putfield 49, 3) := by decide +kernel
theorem dX3_readRow_71 : decode cX3_readRow 71 = .ok (.return_, 1) := by decide +kernel
set_option maxRecDepth 20000 in
theorem ggX3_readEntries_X3_readEntry : GoodIn wsX3_readEntries wsX3_readEntry := goodIn_r _ [11, 5, 6, 12, 13, 14, 15, 16, 17, 18, 19, 20, 21, 10, 22, 4, 23, 24, 25, 26, 31, 32, 33, 34, 39, 40] (by decide +kernel) (by decide +kernel)
set_option maxRecDepth 20000 in
theorem gX3_readEntries_X3_readEntry : GoodIn wsX3_readEntries (wsV RX3 64 RX3 yX3_readEntry wsX3_readEntry) := goodIn_app (goodIn_of _ (by decide +kernel)) ggX3_readEntries_X3_readEntry
set_option maxRecDepth 20000 in
theorem ggX3_readEntries_X5_isAt : GoodIn wsX3_readEntries wsX5_isAt := goodIn_r _ [16, 17, 18, 39, 40] (by decide +kernel) (by decide +kernel)
set_option maxRecDepth 20000 in
theorem gX3_readEntries_X5_isAt : GoodIn wsX3_readEntries (wsV RX3 67 RX5 yX5_isAt wsX5_isAt) := goodIn_app (goodIn_of _ (by decide +kernel)) ggX3_readEntries_X5_isAt
set_option maxRecDepth 20000 in
theorem ggX3_readEntries_X3_step : GoodIn wsX3_readEntries wsX3_step := goodIn_r _ [30, 5, 6, 4, 12, 13, 14, 15, 16, 17, 18, 31, 32, 33, 34, 39, 40] (by decide +kernel) (by decide +kernel)
set_option maxRecDepth 20000 in
theorem gX3_readEntries_X3_step : GoodIn wsX3_readEntries (wsV RX3 41 RX3 yX3_step wsX3_step) := goodIn_app (goodIn_of _ (by decide +kernel)) ggX3_readEntries_X3_step
theorem dX3_readEntries_0 : decode cX3_readEntries 0 = .ok (.iload_n 1, 1) := by decide +kernel
theorem dX3_readEntries_1 : decode cX3_readEntries 1 = .ok (.ifCond .ne 8, 3) := by decide +kernel
theorem dX3_readEntries_4 : decode cX3_readEntries 4 = .ok (.bipush 7, 2) := by decide +kernel
theorem dX3_readEntries_6 : decode cX3_readEntries 6 = .ok (.goto 10, 3) := by decide +kernel
theorem dX3_readEntries_9 : decode cX3_readEntries 9 = .ok (.aload_n 0, 1) := by decide +kernel
theorem dX3_readEntries_10 : decode cX3_readEntries 10 = .ok (.getfield 18, 3) := by decide +kernel
theorem dX3_readEntries_13 : decode cX3_readEntries 13 = .ok (.getfield 49, 3) := by decide +kernel
theorem dX3_readEntries_16 : decode cX3_readEntries 16 = .ok (.istore_n 2, 1) := by decide +kernel
theorem dX3_readEntries_17 : decode cX3_readEntries 17 = .ok (.iconst 0, 1) := by decide +kernel
theorem dX3_readEntries_18 : decode cX3_readEntries 18 = .ok (.istore_n 3, 1) := by decide +kernel
theorem dX3_readEntries_19 : decode cX3_readEntries 19 = .ok (.iconst 1, 1) := by decide +kernel
theorem dX3_readEntries_20 : decode cX3_readEntries 20 = .ok (.istore 4, 2) := by decide +kernel
theorem dX3_readEntries_22 : decode cX3_readEntries 22 = .ok (.iload 4, 2) := by decide +kernel
theorem dX3_readEntries_24 : decode cX3_readEntries 24 = .ok (.ifCond .eq 80, 3) := by decide +kernel
theorem dX3_readEntries_27 : decode cX3_readEntries 27 = .ok (.iload_n 3, 1) := by decide +kernel
theorem dX3_readEntries_28 : decode cX3_readEntries 28 = .ok (.iload_n 2, 1) := by decide +kernel
theorem dX3_readEntries_29 : decode cX3_readEntries 29 = .ok (.if_icmp .ge 75, 3) := by decide +kernel
theorem dX3_readEntries_32 : decode cX3_readEntries 32 = .ok (.aload_n 0, 1) := by decide +kernel
theorem dX3_readEntries_33 : decode cX3_readEntries 33 = .ok (.getfield 18, 3) := by decide +kernel
theorem dX3_readEntries_36 : decode cX3_readEntries 36 = .ok (.getfield 60, 3) := by decide +kernel
theorem dX3_readEntries_39 : decode cX3_readEntries 39 = .ok (.iload_n 1, 1) := by decide +kernel
theorem dX3_readEntries_40 : decode cX3_readEntries 40 = .ok (.aaload, 1) := by decide +kernel
theorem dX3_readEntries_41 : decode cX3_readEntries 41 = .ok (.iload_n 3, 1) := by decide +kernel
theorem dX3_readEntries_42 : decode cX3_readEntries 42 = .ok (.aload_n 0, 1) := by decide +kernel
theorem dX3_readEntries_43 : decode cX3_readEntries 43 = .ok (.invokevirtual 64, 3) := by decide +kernel
theorem dX3_readEntries_46 : decode cX3_readEntries 46 = .ok (.iastore, 1) := by decide +kernel
theorem dX3_readEntries_47 : decode cX3_readEntries 47 = .ok (.iinc 3 1, 3) := by decide +kernel
theorem dX3_readEntries_50 : decode cX3_readEntries 50 = .ok (.aload_n 0, 1) := by decide +kernel
theorem dX3_readEntries_51 : decode cX3_readEntries 51 = .ok (.getfield 26, 3) := by decide +kernel
theorem dX3_readEntries_54 : decode cX3_readEntries 54 = .ok (.ifCond .ne 23, 3) := by decide +kernel
theorem dX3_readEntries_57 : decode cX3_readEntries 57 = .ok (.aload_n 0, 1) := by decide +kernel
theorem dX3_readEntries_58 : decode cX3_readEntries 58 = .ok (.getfield 9, 3) := by decide +kernel
theorem dX3_readEntries_61 : decode cX3_readEntries 61 = .ok (.aload_n 0, 1) := by decide +kernel
theorem dX3_readEntries_62 : decode cX3_readEntries 62 = .ok (.getfield 22, 3) := by decide +kernel
theorem dX3_readEntries_65 : decode cX3_readEntries 65 = .ok (.bipush 44, 2) := by decide +kernel
theorem dX3_readEntries_67 : decode cX3_readEntries 67 = .ok (.invokevirtual 67, 3) := by decide +kernel
theorem dX3_readEntries_70 : decode cX3_readEntries 70 = .ok (.ifCond .eq 7, 3) := by decide +kernel
theorem dX3_readEntries_73 : decode cX3_readEntries 73 = .ok (.iconst 1, 1) := by decide +kernel
theorem dX3_readEntries_74 : decode cX3_readEntries 74 = .ok (.goto 4, 3) := by decide +kernel
theorem dX3_readEntries_77 : decode cX3_readEntries 77 = .ok (.iconst 0, 1) := by decide +kernel
theorem dX3_readEntries_78 : decode cX3_readEntries 78 = .ok (.istore 4, 2) := by decide +kernel
theorem dX3_readEntries_80 : decode cX3_readEntries 80 = .ok (.iload 4, 2) := by decide +kernel
theorem dX3_readEntries_82 : decode cX3_readEntries 82 = .ok (.ifCond .eq (-60), 3) := by decide +kernel
theorem dX3_readEntries_85 : decode cX3_readEntries 85 = .ok (.aload_n 0, 1) := by decide +kernel
theorem dX3_readEntries_86 : decode cX3_readEntries 86 = .ok (.bipush 44, 2) := by decide +kernel
theorem dX3_readEntries_88 : decode cX3_readEntries 88 = .ok (.iload_n 3, 1) := by decide +kernel
theorem dX3_readEntries_89 : decode cX3_readEntries 89 = .ok (.iload_n 2, 1) := by decide +kernel
theorem dX3_readEntries_90 : decode cX3_readEntries 90 = .ok (.if_icmp .ge 7, 3) := by decide +kernel
theorem dX3_readEntries_93 : decode cX3_readEntries 93 = .ok (.iconst 1, 1) := by decide +kernel
theorem dX3_readEntries_94 : decode cX3_readEntries 94 = .ok (.goto 4, 3) := by decide +kernel
theorem dX3_readEntries_97 : decode cX3_readEntries 97 = .ok (.iconst 0, 1) := by decide +kernel
theorem dX3_readEntries_98 : decode cX3_readEntries 98 = .ok (.invokevirtual 41, 3) := by decide +kernel
theorem dX3_readEntries_101 : decode cX3_readEntries 101 = .ok (.goto (-79), 3) := by decide +kernel
theorem dX3_readEntries_104 : decode cX3_readEntries 104 = .ok (.iload_n 3, 1) := by decide +kernel
theorem dX3_readEntries_105 : decode cX3_readEntries 105 = .ok (.ireturn, 1) := by decide +kernel
set_option maxRecDepth 20000 in
theorem ggX3_readEntry_X5_isAt : GoodIn wsX3_readEntry wsX5_isAt := goodIn_r _ [7, 8, 9, 24, 25] (by decide +kernel) (by decide +kernel)
set_option maxRecDepth 20000 in
theorem gX3_readEntry_X5_isAt : GoodIn wsX3_readEntry (wsV RX3 67 RX5 yX5_isAt wsX5_isAt) := goodIn_app (goodIn_of _ (by decide +kernel)) ggX3_readEntry_X5_isAt
set_option maxRecDepth 20000 in
theorem ggX3_readEntry_X3_readNumber : GoodIn wsX3_readEntry wsX3_readNumber := goodIn_r _ [14, 1, 2, 15, 16, 17, 18, 6, 19, 8, 9, 20, 21, 22, 23, 24, 25] (by decide +kernel) (by decide +kernel)
set_option maxRecDepth 20000 in
theorem gX3_readEntry_X3_readNumber : GoodIn wsX3_readEntry (wsV RX3 56 RX3 yX3_readNumber wsX3_readNumber) := goodIn_app (goodIn_of _ (by decide +kernel)) ggX3_readEntry_X3_readNumber
theorem dX3_readEntry_0 : decode cX3_readEntry 0 = .ok (.aload_n 0, 1) := by decide +kernel
theorem dX3_readEntry_1 : decode cX3_readEntry 1 = .ok (.getfield 9, 3) := by decide +kernel
theorem dX3_readEntry_4 : decode cX3_readEntry 4 = .ok (.aload_n 0, 1) := by decide +kernel
theorem dX3_readEntry_5 : decode cX3_readEntry 5 = .ok (.getfield 22, 3) := by decide +kernel
theorem dX3_readEntry_8 : decode cX3_readEntry 8 = .ok (.bipush 120, 2) := by decide +kernel
theorem dX3_readEntry_10 : decode cX3_readEntry 10 = .ok (.invokevirtual 67, 3) := by decide +kernel
theorem dX3_readEntry_13 : decode cX3_readEntry 13 = .ok (.ifCond .eq 15, 3) := by decide +kernel
theorem dX3_readEntry_16 : decode cX3_readEntry 16 = .ok (.aload_n 0, 1) := by decide +kernel
theorem dX3_readEntry_17 : decode cX3_readEntry 17 = .ok (.dup, 1) := by decide +kernel
theorem dX3_readEntry_18 : decode cX3_readEntry 18 = .ok (.getfield 22, 3) := by decide +kernel
theorem dX3_readEntry_21 : decode cX3_readEntry 21 = .ok (.iconst 1, 1) := by decide +kernel
theorem dX3_readEntry_22 : decode cX3_readEntry 22 = .ok (.iadd, 1) := by decide +kernel
theorem dX3_readEntry_23 : decode cX3_readEntry 23 = .ok (.putfield 22, 3) := by decide +kernel
theorem dX3_readEntry_26 : decode cX3_readEntry 26 = .ok (.iconst (-1), 1) := by decide +kernel
theorem dX3_readEntry_27 : decode cX3_readEntry 27 = .ok (.ireturn, 1) := by decide +kernel
theorem dX3_readEntry_28 : decode cX3_readEntry 28 = .ok (.aload_n 0, 1) := by decide +kernel
theorem dX3_readEntry_29 : decode cX3_readEntry 29 = .ok (.invokevirtual 56, 3) := by decide +kernel
theorem dX3_readEntry_32 : decode cX3_readEntry 32 = .ok (.ireturn, 1) := by decide +kernel
set_option maxRecDepth 20000 in
theorem ggX3_readNumber_X5_digitAt : GoodIn wsX3_readNumber wsX5_digitAt := goodIn_r _ [8, 9, 10, 15, 16] (by decide +kernel) (by decide +kernel)
set_option maxRecDepth 20000 in
theorem gX3_readNumber_X5_digitAt : GoodIn wsX3_readNumber (wsV RX3 71 RX5 yX5_digitAt wsX5_digitAt) := goodIn_app (goodIn_of _ (by decide +kernel)) ggX3_readNumber_X5_digitAt
theorem dX3_readNumber_0 : decode cX3_readNumber 0 = .ok (.aload_n 0, 1) := by decide +kernel
theorem dX3_readNumber_1 : decode cX3_readNumber 1 = .ok (.getfield 9, 3) := by decide +kernel
theorem dX3_readNumber_4 : decode cX3_readNumber 4 = .ok (.aload_n 0, 1) := by decide +kernel
theorem dX3_readNumber_5 : decode cX3_readNumber 5 = .ok (.getfield 22, 3) := by decide +kernel
theorem dX3_readNumber_8 : decode cX3_readNumber 8 = .ok (.invokevirtual 71, 3) := by decide +kernel
theorem dX3_readNumber_11 : decode cX3_readNumber 11 = .ok (.istore_n 1, 1) := by decide +kernel
theorem dX3_readNumber_12 : decode cX3_readNumber 12 = .ok (.iload_n 1, 1) := by decide +kernel
theorem dX3_readNumber_13 : decode cX3_readNumber 13 = .ok (.ifCond .ge 10, 3) := by decide +kernel
theorem dX3_readNumber_16 : decode cX3_readNumber 16 = .ok (.aload_n 0, 1) := by decide +kernel
theorem dX3_readNumber_17 : decode cX3_readNumber 17 = .ok (.iconst 1, 1) := by decide +kernel
theorem dX3_readNumber_18 : decode cX3_readNumber 18 = .ok (.putfield 26, 3) := by decide +kernel
theorem dX3_readNumber_21 : decode cX3_readNumber 21 = .ok (.iconst 0, 1) := by decide +kernel
theorem dX3_readNumber_22 : decode cX3_readNumber 22 = .ok (.ireturn, 1) := by decide +kernel
theorem dX3_readNumber_23 : decode cX3_readNumber 23 = .ok (.aload_n 0, 1) := by decide +kernel
theorem dX3_readNumber_24 : decode cX3_readNumber 24 = .ok (.dup, 1) := by decide +kernel
theorem dX3_readNumber_25 : decode cX3_readNumber 25 = .ok (.getfield 22, 3) := by decide +kernel
theorem dX3_readNumber_28 : decode cX3_readNumber 28 = .ok (.iconst 1, 1) := by decide +kernel
theorem dX3_readNumber_29 : decode cX3_readNumber 29 = .ok (.iadd, 1) := by decide +kernel
theorem dX3_readNumber_30 : decode cX3_readNumber 30 = .ok (.putfield 22, 3) := by decide +kernel
theorem dX3_readNumber_33 : decode cX3_readNumber 33 = .ok (.iconst 1, 1) := by decide +kernel
theorem dX3_readNumber_34 : decode cX3_readNumber 34 = .ok (.istore_n 2, 1) := by decide +kernel
theorem dX3_readNumber_35 : decode cX3_readNumber 35 = .ok (.iload_n 2, 1) := by decide +kernel
theorem dX3_readNumber_36 : decode cX3_readNumber 36 = .ok (.iconst 4, 1) := by decide +kernel
theorem dX3_readNumber_37 : decode cX3_readNumber 37 = .ok (.if_icmp .ge 54, 3) := by decide +kernel
theorem dX3_readNumber_40 : decode cX3_readNumber 40 = .ok (.iload_n 1, 1) := by decide +kernel
theorem dX3_readNumber_41 : decode cX3_readNumber 41 = .ok (.ifCond .le 50, 3) := by decide +kernel
theorem dX3_readNumber_44 : decode cX3_readNumber 44 = .ok (.aload_n 0, 1) := by decide +kernel
theorem dX3_readNumber_45 : decode cX3_readNumber 45 = .ok (.getfield 9, 3) := by decide +kernel
theorem dX3_readNumber_48 : decode cX3_readNumber 48 = .ok (.aload_n 0, 1) := by decide +kernel
theorem dX3_readNumber_49 : decode cX3_readNumber 49 = .ok (.getfield 22, 3) := by decide +kernel
theorem dX3_readNumber_52 : decode cX3_readNumber 52 = .ok (.invokevirtual 71, 3) := by decide +kernel
theorem dX3_readNumber_55 : decode cX3_readNumber 55 = .ok (.ifCond .lt 36, 3) := by decide +kernel
theorem dX3_readNumber_58 : decode cX3_readNumber 58 = .ok (.iload_n 1, 1) := by decide +kernel
theorem dX3_readNumber_59 : decode cX3_readNumber 59 = .ok (.bipush 10, 2) := by decide +kernel
theorem dX3_readNumber_61 : decode cX3_readNumber 61 = .ok (.imul, 1) := by decide +kernel
theorem dX3_readNumber_62 : decode cX3_readNumber 62 = .ok (.aload_n 0, 1) := by decide +kernel
theorem dX3_readNumber_63 : decode cX3_readNumber 63 = .ok (.getfield 9, 3) := by decide +kernel
theorem dX3_readNumber_66 : decode cX3_readNumber 66 = .ok (.aload_n 0, 1) := by decide +kernel
theorem dX3_readNumber_67 : decode cX3_readNumber 67 = .ok (.getfield 22, 3) := by decide +kernel
theorem dX3_readNumber_70 : decode cX3_readNumber 70 = .ok (.invokevirtual 71, 3) := by decide +kernel
theorem dX3_readNumber_73 : decode cX3_readNumber 73 = .ok (.iadd, 1) := by decide +kernel
theorem dX3_readNumber_74 : decode cX3_readNumber 74 = .ok (.istore_n 1, 1) := by decide +kernel
theorem dX3_readNumber_75 : decode cX3_readNumber 75 = .ok (.aload_n 0, 1) := by decide +kernel
theorem dX3_readNumber_76 : decode cX3_readNumber 76 = .ok (.dup, 1) := by decide +kernel
theorem dX3_readNumber_77 : decode cX3_readNumber 77 = .ok (.getfield 22, 3) := by decide +kernel
theorem dX3_readNumber_80 : decode cX3_readNumber 80 = .ok (.iconst 1, 1) := by decide +kernel
theorem dX3_readNumber_81 : decode cX3_readNumber 81 = .ok (.iadd, 1) := by decide +kernel
theorem dX3_readNumber_82 : decode cX3_readNumber 82 = .ok (.putfield 22, 3) := by decide +kernel
theorem dX3_readNumber_85 : decode cX3_readNumber 85 = .ok (.iinc 2 1, 3) := by decide +kernel
theorem dX3_readNumber_88 : decode cX3_readNumber 88 = .ok (.goto (-53), 3) := by decide +kernel
theorem dX3_readNumber_91 : decode cX3_readNumber 91 = .ok (.iload_n 1, 1) := by decide +kernel
theorem dX3_readNumber_92 : decode cX3_readNumber 92 = .ok (.ireturn, 1) := by decide +kernel
set_option maxRecDepth 20000 in
theorem ggX3_step_X5_isAt : GoodIn wsX3_step wsX5_isAt := goodIn_r _ [8, 9, 10, 15, 16] (by decide +kernel) (by decide +kernel)
set_option maxRecDepth 20000 in
theorem gX3_step_X5_isAt : GoodIn wsX3_step (wsV RX3 67 RX5 yX5_isAt wsX5_isAt) := goodIn_app (goodIn_of _ (by decide +kernel)) ggX3_step_X5_isAt
theorem dX3_step_0 : decode cX3_step 0 = .ok (.aload_n 0, 1) := by decide +kernel
theorem dX3_step_1 : decode cX3_step 1 = .ok (.getfield 9, 3) := by decide +kernel
theorem dX3_step_4 : decode cX3_step 4 = .ok (.aload_n 0, 1) := by decide +kernel
theorem dX3_step_5 : decode cX3_step 5 = .ok (.getfield 22, 3) := by decide +kernel
theorem dX3_step_8 : decode cX3_step 8 = .ok (.iload_n 1, 1) := by decide +kernel
theorem dX3_step_9 : decode cX3_step 9 = .ok (.invokevirtual 67, 3) := by decide +kernel
theorem dX3_step_12 : decode cX3_step 12 = .ok (.ifCond .ne 11, 3) := by decide +kernel
theorem dX3_step_15 : decode cX3_step 15 = .ok (.aload_n 0, 1) := by decide +kernel
theorem dX3_step_16 : decode cX3_step 16 = .ok (.iconst 1, 1) := by decide +kernel
theorem dX3_step_17 : decode cX3_step 17 = .ok (.putfield 26, 3) := by decide +kernel
theorem dX3_step_20 : decode cX3_step 20 = .ok (.goto 25, 3) := by decide +kernel
theorem dX3_step_23 : decode cX3_step 23 = .ok (.iload_n 2, 1) := by decide +kernel
theorem dX3_step_24 : decode cX3_step 24 = .ok (.ifCond .ne 11, 3) := by decide +kernel
theorem dX3_step_27 : decode cX3_step 27 = .ok (.aload_n 0, 1) := by decide +kernel
theorem dX3_step_28 : decode cX3_step 28 = .ok (.iconst 2, 1) := by decide +kernel
theorem dX3_step_29 : decode cX3_step 29 = .ok (.putfield 26, 3) := by decide +kernel
theorem dX3_step_32 : decode cX3_step 32 = .ok (.goto 13, 3) := by decide +kernel
theorem dX3_step_35 : decode cX3_step 35 = .ok (.aload_n 0, 1) := by decide +kernel
theorem dX3_step_36 : decode cX3_step 36 = .ok (.dup, 1) := by decide +kernel
theorem dX3_step_37 : decode cX3_step 37 = .ok (.getfield 22, 3) := by decide +kernel
theorem dX3_step_40 : decode cX3_step 40 = .ok (.iconst 1, 1) := by decide +kernel
theorem dX3_step_41 : decode cX3_step 41 = .ok (.iadd, 1) := by decide +kernel
theorem dX3_step_42 : decode cX3_step 42 = .ok (.putfield 22, 3) := by decide +kernel
theorem dX3_step_45 : decode cX3_step 45 = .ok (.return_, 1) := by decide +kernel
