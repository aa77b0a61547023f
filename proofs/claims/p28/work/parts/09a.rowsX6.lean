set_option maxRecDepth 20000 in
theorem ggX6_init_X4_init : GoodIn wsX6_init wsX4_init := goodIn_r _ [30, 31, 2, 3, 32, 33, 34, 35, 72, 73, 74, 75] (by decide +kernel) (by decide +kernel)
set_option maxRecDepth 20000 in
theorem gX6_init_X4_init : GoodIn wsX6_init (wsX4_init) := ggX6_init_X4_init
set_option maxRecDepth 20000 in
theorem ggX6_init_X0_init : GoodIn wsX6_init wsX0_init := goodIn_r _ [38, 39, 2, 3, 40, 41, 5, 6, 42, 29, 30, 31, 32, 33, 34, 35, 82, 83, 72, 73, 74, 75] (by decide +kernel) (by decide +kernel)
set_option maxRecDepth 20000 in
theorem gX6_init_X0_init : GoodIn wsX6_init (wsX0_init) := ggX6_init_X0_init
set_option maxRecDepth 20000 in
theorem ggX6_init_X1_init : GoodIn wsX6_init wsX1_init := goodIn_r _ [45, 46, 2, 3, 47, 32, 48, 49, 50, 84, 85, 86, 87] (by decide +kernel) (by decide +kernel)
set_option maxRecDepth 20000 in
theorem gX6_init_X1_init : GoodIn wsX6_init (wsX1_init) := ggX6_init_X1_init
set_option maxRecDepth 20000 in
theorem ggX6_init_X2_init : GoodIn wsX6_init wsX2_init := goodIn_r _ [53, 54, 2, 3, 55, 56, 32, 57, 88, 89, 90] (by decide +kernel) (by decide +kernel)
set_option maxRecDepth 20000 in
theorem gX6_init_X2_init : GoodIn wsX6_init (wsX2_init) := ggX6_init_X2_init
set_option maxRecDepth 20000 in
theorem ggX6_init_X5_init : GoodIn wsX6_init wsX5_init := goodIn_r _ [60, 61, 2, 3, 62, 63, 91, 92] (by decide +kernel) (by decide +kernel)
set_option maxRecDepth 20000 in
theorem gX6_init_X5_init : GoodIn wsX6_init (wsX5_init) := ggX6_init_X5_init
set_option maxRecDepth 20000 in
theorem ggX6_init_X3_init : GoodIn wsX6_init wsX3_init := goodIn_r _ [66, 67, 2, 3, 68, 69, 5, 6, 70, 71, 29, 30, 31, 32, 33, 34, 35, 93, 94, 95, 96, 72, 73, 74, 75] (by decide +kernel) (by decide +kernel)
set_option maxRecDepth 20000 in
theorem gX6_init_X3_init : GoodIn wsX6_init (wsX3_init) := ggX6_init_X3_init
theorem dX6_init_0 : decode cX6_init 0 = .ok (.aload_n 0, 1) := by decide +kernel
theorem dX6_init_1 : decode cX6_init 1 = .ok (.invokespecial 1, 3) := by decide +kernel
theorem dX6_init_4 : decode cX6_init 4 = .ok (.aload_n 0, 1) := by decide +kernel
theorem dX6_init_5 : decode cX6_init 5 = .ok (.new 7, 3) := by decide +kernel
theorem dX6_init_8 : decode cX6_init 8 = .ok (.dup, 1) := by decide +kernel
theorem dX6_init_9 : decode cX6_init 9 = .ok (.invokespecial 9, 3) := by decide +kernel
theorem dX6_init_12 : decode cX6_init 12 = .ok (.putfield 10, 3) := by decide +kernel
theorem dX6_init_15 : decode cX6_init 15 = .ok (.aload_n 0, 1) := by decide +kernel
theorem dX6_init_16 : decode cX6_init 16 = .ok (.new 16, 3) := by decide +kernel
theorem dX6_init_19 : decode cX6_init 19 = .ok (.dup, 1) := by decide +kernel
theorem dX6_init_20 : decode cX6_init 20 = .ok (.invokespecial 18, 3) := by decide +kernel
theorem dX6_init_23 : decode cX6_init 23 = .ok (.putfield 19, 3) := by decide +kernel
theorem dX6_init_26 : decode cX6_init 26 = .ok (.aload_n 0, 1) := by decide +kernel
theorem dX6_init_27 : decode cX6_init 27 = .ok (.new 23, 3) := by decide +kernel
theorem dX6_init_30 : decode cX6_init 30 = .ok (.dup, 1) := by decide +kernel
theorem dX6_init_31 : decode cX6_init 31 = .ok (.aload_n 0, 1) := by decide +kernel
theorem dX6_init_32 : decode cX6_init 32 = .ok (.getfield 10, 3) := by decide +kernel
theorem dX6_init_35 : decode cX6_init 35 = .ok (.invokespecial 25, 3) := by decide +kernel
theorem dX6_init_38 : decode cX6_init 38 = .ok (.putfield 28, 3) := by decide +kernel
theorem dX6_init_41 : decode cX6_init 41 = .ok (.aload_n 0, 1) := by decide +kernel
theorem dX6_init_42 : decode cX6_init 42 = .ok (.new 32, 3) := by decide +kernel
theorem dX6_init_45 : decode cX6_init 45 = .ok (.dup, 1) := by decide +kernel
theorem dX6_init_46 : decode cX6_init 46 = .ok (.aload_n 0, 1) := by decide +kernel
theorem dX6_init_47 : decode cX6_init 47 = .ok (.getfield 10, 3) := by decide +kernel
theorem dX6_init_50 : decode cX6_init 50 = .ok (.aload_n 0, 1) := by decide +kernel
theorem dX6_init_51 : decode cX6_init 51 = .ok (.getfield 28, 3) := by decide +kernel
theorem dX6_init_54 : decode cX6_init 54 = .ok (.invokespecial 34, 3) := by decide +kernel
theorem dX6_init_57 : decode cX6_init 57 = .ok (.putfield 37, 3) := by decide +kernel
theorem dX6_init_60 : decode cX6_init 60 = .ok (.aload_n 0, 1) := by decide +kernel
theorem dX6_init_61 : decode cX6_init 61 = .ok (.new 41, 3) := by decide +kernel
theorem dX6_init_64 : decode cX6_init 64 = .ok (.dup, 1) := by decide +kernel
theorem dX6_init_65 : decode cX6_init 65 = .ok (.invokespecial 43, 3) := by decide +kernel
theorem dX6_init_68 : decode cX6_init 68 = .ok (.putfield 44, 3) := by decide +kernel
theorem dX6_init_71 : decode cX6_init 71 = .ok (.aload_n 0, 1) := by decide +kernel
theorem dX6_init_72 : decode cX6_init 72 = .ok (.new 48, 3) := by decide +kernel
theorem dX6_init_75 : decode cX6_init 75 = .ok (.dup, 1) := by decide +kernel
theorem dX6_init_76 : decode cX6_init 76 = .ok (.aload_n 0, 1) := by decide +kernel
theorem dX6_init_77 : decode cX6_init 77 = .ok (.getfield 44, 3) := by decide +kernel
theorem dX6_init_80 : decode cX6_init 80 = .ok (.invokespecial 50, 3) := by decide +kernel
theorem dX6_init_83 : decode cX6_init 83 = .ok (.putfield 53, 3) := by decide +kernel
theorem dX6_init_86 : decode cX6_init 86 = .ok (.return_, 1) := by decide +kernel
set_option maxRecDepth 20000 in
theorem ggX6_worker_X6_isCost : GoodIn wsX6_worker wsX6_isCost := goodIn_r _ [7] (by decide +kernel) (by decide +kernel)
set_option maxRecDepth 20000 in
theorem gX6_worker_X6_isCost : GoodIn wsX6_worker (va_wsS RX6 57 yX6_isCost wsX6_isCost) := goodIn_app (goodIn_of _ (by decide +kernel)) ggX6_worker_X6_isCost
set_option maxRecDepth 20000 in
theorem ggX6_worker_X0_keep : GoodIn wsX6_worker wsX0_keep := goodIn_r _ [12, 13, 14, 15, 16, 17, 11, 18, 19, 20, 21, 22, 23, 24, 25, 26, 27, 42, 43, 38, 39, 40, 41] (by decide +kernel) (by decide +kernel)
set_option maxRecDepth 20000 in
theorem gX6_worker_X0_keep : GoodIn wsX6_worker (wsV RX6 65 RX0 yX0_keep wsX0_keep) := goodIn_app (goodIn_of _ (by decide +kernel)) ggX6_worker_X0_keep
set_option maxRecDepth 20000 in
theorem ggX6_worker_X4_addWorker : GoodIn wsX6_worker wsX4_addWorker := goodIn_r _ [31, 26, 24, 25, 27, 38, 39, 40, 41] (by decide +kernel) (by decide +kernel)
set_option maxRecDepth 20000 in
theorem gX6_worker_X4_addWorker : GoodIn wsX6_worker (wsV RX6 68 RX4 yX4_addWorker wsX4_addWorker) := goodIn_app (goodIn_of _ (by decide +kernel)) ggX6_worker_X4_addWorker
theorem dX6_worker_0 : decode cX6_worker 0 = .ok (.iload_n 1, 1) := by decide +kernel
theorem dX6_worker_1 : decode cX6_worker 1 = .ok (.invokestatic 57, 3) := by decide +kernel
theorem dX6_worker_4 : decode cX6_worker 4 = .ok (.ifCond .ne 5, 3) := by decide +kernel
theorem dX6_worker_7 : decode cX6_worker 7 = .ok (.iconst (-1), 1) := by decide +kernel
theorem dX6_worker_8 : decode cX6_worker 8 = .ok (.ireturn, 1) := by decide +kernel
theorem dX6_worker_9 : decode cX6_worker 9 = .ok (.aload_n 0, 1) := by decide +kernel
theorem dX6_worker_10 : decode cX6_worker 10 = .ok (.getfield 10, 3) := by decide +kernel
theorem dX6_worker_13 : decode cX6_worker 13 = .ok (.getfield 61, 3) := by decide +kernel
theorem dX6_worker_16 : decode cX6_worker 16 = .ok (.bipush 7, 2) := by decide +kernel
theorem dX6_worker_18 : decode cX6_worker 18 = .ok (.if_icmp .lt 6, 3) := by decide +kernel
theorem dX6_worker_21 : decode cX6_worker 21 = .ok (.bipush (-3), 2) := by decide +kernel
theorem dX6_worker_23 : decode cX6_worker 23 = .ok (.ireturn, 1) := by decide +kernel
theorem dX6_worker_24 : decode cX6_worker 24 = .ok (.aload_n 0, 1) := by decide +kernel
theorem dX6_worker_25 : decode cX6_worker 25 = .ok (.getfield 19, 3) := by decide +kernel
theorem dX6_worker_28 : decode cX6_worker 28 = .ok (.aload_n 0, 1) := by decide +kernel
theorem dX6_worker_29 : decode cX6_worker 29 = .ok (.getfield 10, 3) := by decide +kernel
theorem dX6_worker_32 : decode cX6_worker 32 = .ok (.invokevirtual 65, 3) := by decide +kernel
theorem dX6_worker_35 : decode cX6_worker 35 = .ok (.aload_n 0, 1) := by decide +kernel
theorem dX6_worker_36 : decode cX6_worker 36 = .ok (.getfield 10, 3) := by decide +kernel
theorem dX6_worker_39 : decode cX6_worker 39 = .ok (.iload_n 1, 1) := by decide +kernel
theorem dX6_worker_40 : decode cX6_worker 40 = .ok (.invokevirtual 68, 3) := by decide +kernel
theorem dX6_worker_43 : decode cX6_worker 43 = .ok (.aload_n 0, 1) := by decide +kernel
theorem dX6_worker_44 : decode cX6_worker 44 = .ok (.getfield 10, 3) := by decide +kernel
theorem dX6_worker_47 : decode cX6_worker 47 = .ok (.getfield 61, 3) := by decide +kernel
theorem dX6_worker_50 : decode cX6_worker 50 = .ok (.iconst 1, 1) := by decide +kernel
theorem dX6_worker_51 : decode cX6_worker 51 = .ok (.isub, 1) := by decide +kernel
theorem dX6_worker_52 : decode cX6_worker 52 = .ok (.ireturn, 1) := by decide +kernel
set_option maxRecDepth 20000 in
theorem ggX6_task_X0_keep : GoodIn wsX6_task wsX0_keep := goodIn_r _ [8, 9, 10, 11, 12, 13, 7, 14, 15, 16, 17, 18, 19, 20, 21, 22, 23, 38, 39, 34, 35, 36, 37] (by decide +kernel) (by decide +kernel)
set_option maxRecDepth 20000 in
theorem gX6_task_X0_keep : GoodIn wsX6_task (wsV RX6 65 RX0 yX0_keep wsX0_keep) := goodIn_app (goodIn_of _ (by decide +kernel)) ggX6_task_X0_keep
set_option maxRecDepth 20000 in
theorem ggX6_task_X4_addTask : GoodIn wsX6_task wsX4_addTask := goodIn_r _ [27, 20, 23, 21, 34, 35, 36, 37] (by decide +kernel) (by decide +kernel)
set_option maxRecDepth 20000 in
theorem gX6_task_X4_addTask : GoodIn wsX6_task (wsV RX6 75 RX4 yX4_addTask wsX4_addTask) := goodIn_app (goodIn_of _ (by decide +kernel)) ggX6_task_X4_addTask
theorem dX6_task_0 : decode cX6_task 0 = .ok (.aload_n 0, 1) := by decide +kernel
theorem dX6_task_1 : decode cX6_task 1 = .ok (.getfield 10, 3) := by decide +kernel
theorem dX6_task_4 : decode cX6_task 4 = .ok (.getfield 72, 3) := by decide +kernel
theorem dX6_task_7 : decode cX6_task 7 = .ok (.bipush 7, 2) := by decide +kernel
theorem dX6_task_9 : decode cX6_task 9 = .ok (.if_icmp .lt 6, 3) := by decide +kernel
theorem dX6_task_12 : decode cX6_task 12 = .ok (.bipush (-3), 2) := by decide +kernel
theorem dX6_task_14 : decode cX6_task 14 = .ok (.ireturn, 1) := by decide +kernel
theorem dX6_task_15 : decode cX6_task 15 = .ok (.aload_n 0, 1) := by decide +kernel
theorem dX6_task_16 : decode cX6_task 16 = .ok (.getfield 19, 3) := by decide +kernel
theorem dX6_task_19 : decode cX6_task 19 = .ok (.aload_n 0, 1) := by decide +kernel
theorem dX6_task_20 : decode cX6_task 20 = .ok (.getfield 10, 3) := by decide +kernel
theorem dX6_task_23 : decode cX6_task 23 = .ok (.invokevirtual 65, 3) := by decide +kernel
theorem dX6_task_26 : decode cX6_task 26 = .ok (.aload_n 0, 1) := by decide +kernel
theorem dX6_task_27 : decode cX6_task 27 = .ok (.getfield 10, 3) := by decide +kernel
theorem dX6_task_30 : decode cX6_task 30 = .ok (.invokevirtual 75, 3) := by decide +kernel
theorem dX6_task_33 : decode cX6_task 33 = .ok (.aload_n 0, 1) := by decide +kernel
theorem dX6_task_34 : decode cX6_task 34 = .ok (.getfield 10, 3) := by decide +kernel
theorem dX6_task_37 : decode cX6_task 37 = .ok (.getfield 72, 3) := by decide +kernel
theorem dX6_task_40 : decode cX6_task 40 = .ok (.iconst 1, 1) := by decide +kernel
theorem dX6_task_41 : decode cX6_task 41 = .ok (.isub, 1) := by decide +kernel
theorem dX6_task_42 : decode cX6_task 42 = .ok (.ireturn, 1) := by decide +kernel
set_option maxRecDepth 20000 in
theorem ggX6_dropWorker_X6_isWorker : GoodIn wsX6_dropWorker wsX6_isWorker := goodIn_r _ [8, 2, 3, 33, 34, 35, 36, 37, 38, 39, 40, 41, 42] (by decide +kernel) (by decide +kernel)
set_option maxRecDepth 20000 in
theorem gX6_dropWorker_X6_isWorker : GoodIn wsX6_dropWorker (wsV RX6 78 RX6 yX6_isWorker wsX6_isWorker) := goodIn_app (goodIn_of _ (by decide +kernel)) ggX6_dropWorker_X6_isWorker
set_option maxRecDepth 20000 in
theorem ggX6_dropWorker_X0_keep : GoodIn wsX6_dropWorker wsX0_keep := goodIn_r _ [13, 14, 15, 16, 17, 18, 12, 19, 20, 21, 22, 23, 24, 25, 26, 27, 28, 43, 44, 39, 40, 41, 42] (by decide +kernel) (by decide +kernel)
set_option maxRecDepth 20000 in
theorem gX6_dropWorker_X0_keep : GoodIn wsX6_dropWorker (wsV RX6 65 RX0 yX0_keep wsX0_keep) := goodIn_app (goodIn_of _ (by decide +kernel)) ggX6_dropWorker_X0_keep
set_option maxRecDepth 20000 in
theorem ggX6_dropWorker_X4_removeWorker : GoodIn wsX6_dropWorker wsX4_removeWorker := goodIn_r _ [32, 25, 27, 26, 28, 39, 40, 41, 42] (by decide +kernel) (by decide +kernel)
set_option maxRecDepth 20000 in
theorem gX6_dropWorker_X4_removeWorker : GoodIn wsX6_dropWorker (wsV RX6 81 RX4 yX4_removeWorker wsX4_removeWorker) := goodIn_app (goodIn_of _ (by decide +kernel)) ggX6_dropWorker_X4_removeWorker
theorem dX6_dropWorker_0 : decode cX6_dropWorker 0 = .ok (.aload_n 0, 1) := by decide +kernel
theorem dX6_dropWorker_1 : decode cX6_dropWorker 1 = .ok (.iload_n 1, 1) := by decide +kernel
theorem dX6_dropWorker_2 : decode cX6_dropWorker 2 = .ok (.invokevirtual 78, 3) := by decide +kernel
theorem dX6_dropWorker_5 : decode cX6_dropWorker 5 = .ok (.ifCond .ne 5, 3) := by decide +kernel
theorem dX6_dropWorker_8 : decode cX6_dropWorker 8 = .ok (.iconst (-1), 1) := by decide +kernel
theorem dX6_dropWorker_9 : decode cX6_dropWorker 9 = .ok (.ireturn, 1) := by decide +kernel
theorem dX6_dropWorker_10 : decode cX6_dropWorker 10 = .ok (.aload_n 0, 1) := by decide +kernel
theorem dX6_dropWorker_11 : decode cX6_dropWorker 11 = .ok (.getfield 19, 3) := by decide +kernel
theorem dX6_dropWorker_14 : decode cX6_dropWorker 14 = .ok (.aload_n 0, 1) := by decide +kernel
theorem dX6_dropWorker_15 : decode cX6_dropWorker 15 = .ok (.getfield 10, 3) := by decide +kernel
theorem dX6_dropWorker_18 : decode cX6_dropWorker 18 = .ok (.invokevirtual 65, 3) := by decide +kernel
theorem dX6_dropWorker_21 : decode cX6_dropWorker 21 = .ok (.aload_n 0, 1) := by decide +kernel
theorem dX6_dropWorker_22 : decode cX6_dropWorker 22 = .ok (.getfield 10, 3) := by decide +kernel
theorem dX6_dropWorker_25 : decode cX6_dropWorker 25 = .ok (.iload_n 1, 1) := by decide +kernel
theorem dX6_dropWorker_26 : decode cX6_dropWorker 26 = .ok (.invokevirtual 81, 3) := by decide +kernel
theorem dX6_dropWorker_29 : decode cX6_dropWorker 29 = .ok (.aload_n 0, 1) := by decide +kernel
theorem dX6_dropWorker_30 : decode cX6_dropWorker 30 = .ok (.getfield 10, 3) := by decide +kernel
theorem dX6_dropWorker_33 : decode cX6_dropWorker 33 = .ok (.getfield 61, 3) := by decide +kernel
theorem dX6_dropWorker_36 : decode cX6_dropWorker 36 = .ok (.ireturn, 1) := by decide +kernel
set_option maxRecDepth 20000 in
theorem ggX6_dropTask_X6_isTask : GoodIn wsX6_dropTask wsX6_isTask := goodIn_r _ [8, 2, 3, 33, 34, 35, 36, 37, 38, 39, 40, 41, 42] (by decide +kernel) (by decide +kernel)
set_option maxRecDepth 20000 in
theorem gX6_dropTask_X6_isTask : GoodIn wsX6_dropTask (wsV RX6 84 RX6 yX6_isTask wsX6_isTask) := goodIn_app (goodIn_of _ (by decide +kernel)) ggX6_dropTask_X6_isTask
set_option maxRecDepth 20000 in
theorem ggX6_dropTask_X0_keep : GoodIn wsX6_dropTask wsX0_keep := goodIn_r _ [13, 14, 15, 16, 17, 18, 12, 19, 20, 21, 22, 23, 24, 25, 26, 27, 28, 43, 44, 39, 40, 41, 42] (by decide +kernel) (by decide +kernel)
set_option maxRecDepth 20000 in
theorem gX6_dropTask_X0_keep : GoodIn wsX6_dropTask (wsV RX6 65 RX0 yX0_keep wsX0_keep) := goodIn_app (goodIn_of _ (by decide +kernel)) ggX6_dropTask_X0_keep
set_option maxRecDepth 20000 in
theorem ggX6_dropTask_X4_removeTask : GoodIn wsX6_dropTask wsX4_removeTask := goodIn_r _ [32, 26, 25, 28, 39, 40, 41, 42] (by decide +kernel) (by decide +kernel)
set_option maxRecDepth 20000 in
theorem gX6_dropTask_X4_removeTask : GoodIn wsX6_dropTask (wsV RX6 87 RX4 yX4_removeTask wsX4_removeTask) := goodIn_app (goodIn_of _ (by decide +kernel)) ggX6_dropTask_X4_removeTask
theorem dX6_dropTask_0 : decode cX6_dropTask 0 = .ok (.aload_n 0, 1) := by decide +kernel
theorem dX6_dropTask_1 : decode cX6_dropTask 1 = .ok (.iload_n 1, 1) := by decide +kernel
theorem dX6_dropTask_2 : decode cX6_dropTask 2 = .ok (.invokevirtual 84, 3) := by decide +kernel
theorem dX6_dropTask_5 : decode cX6_dropTask 5 = .ok (.ifCond .ne 5, 3) := by decide +kernel
theorem dX6_dropTask_8 : decode cX6_dropTask 8 = .ok (.iconst (-1), 1) := by decide +kernel
theorem dX6_dropTask_9 : decode cX6_dropTask 9 = .ok (.ireturn, 1) := by decide +kernel
theorem dX6_dropTask_10 : decode cX6_dropTask 10 = .ok (.aload_n 0, 1) := by decide +kernel
theorem dX6_dropTask_11 : decode cX6_dropTask 11 = .ok (.getfield 19, 3) := by decide +kernel
theorem dX6_dropTask_14 : decode cX6_dropTask 14 = .ok (.aload_n 0, 1) := by decide +kernel
theorem dX6_dropTask_15 : decode cX6_dropTask 15 = .ok (.getfield 10, 3) := by decide +kernel
theorem dX6_dropTask_18 : decode cX6_dropTask 18 = .ok (.invokevirtual 65, 3) := by decide +kernel
theorem dX6_dropTask_21 : decode cX6_dropTask 21 = .ok (.aload_n 0, 1) := by decide +kernel
theorem dX6_dropTask_22 : decode cX6_dropTask 22 = .ok (.getfield 10, 3) := by decide +kernel
theorem dX6_dropTask_25 : decode cX6_dropTask 25 = .ok (.iload_n 1, 1) := by decide +kernel
theorem dX6_dropTask_26 : decode cX6_dropTask 26 = .ok (.invokevirtual 87, 3) := by decide +kernel
theorem dX6_dropTask_29 : decode cX6_dropTask 29 = .ok (.aload_n 0, 1) := by decide +kernel
theorem dX6_dropTask_30 : decode cX6_dropTask 30 = .ok (.getfield 10, 3) := by decide +kernel
theorem dX6_dropTask_33 : decode cX6_dropTask 33 = .ok (.getfield 72, 3) := by decide +kernel
theorem dX6_dropTask_36 : decode cX6_dropTask 36 = .ok (.ireturn, 1) := by decide +kernel
set_option maxRecDepth 20000 in
theorem ggX6_cost_X6_isWorker : GoodIn wsX6_cost wsX6_isWorker := goodIn_r _ [6, 7, 8, 80, 81, 82, 83, 84, 85, 86, 87, 88, 89] (by decide +kernel) (by decide +kernel)
set_option maxRecDepth 20000 in
theorem gX6_cost_X6_isWorker : GoodIn wsX6_cost (wsV RX6 78 RX6 yX6_isWorker wsX6_isWorker) := goodIn_app (goodIn_of _ (by decide +kernel)) ggX6_cost_X6_isWorker
set_option maxRecDepth 20000 in
theorem ggX6_cost_X6_isTask : GoodIn wsX6_cost wsX6_isTask := goodIn_r _ [12, 7, 13, 80, 81, 82, 83, 84, 85, 86, 87, 88, 89] (by decide +kernel) (by decide +kernel)
set_option maxRecDepth 20000 in
theorem gX6_cost_X6_isTask : GoodIn wsX6_cost (wsV RX6 84 RX6 yX6_isTask wsX6_isTask) := goodIn_app (goodIn_of _ (by decide +kernel)) ggX6_cost_X6_isTask
set_option maxRecDepth 20000 in
theorem ggX6_cost_X6_isCost : GoodIn wsX6_cost wsX6_isCost := goodIn_r _ [16] (by decide +kernel) (by decide +kernel)
set_option maxRecDepth 20000 in
theorem gX6_cost_X6_isCost : GoodIn wsX6_cost (va_wsS RX6 57 yX6_isCost wsX6_isCost) := goodIn_app (goodIn_of _ (by decide +kernel)) ggX6_cost_X6_isCost
set_option maxRecDepth 20000 in
theorem ggX6_cost_X6_changePair : GoodIn wsX6_cost wsX6_changePair := goodIn_r _ [20, 21, 22, 7, 23, 24, 25, 26, 27, 28, 29, 30, 31, 32, 33, 34, 35, 36, 37, 38, 39, 40, 41, 42, 43, 44, 45, 46, 47, 48, 49, 50, 51, 52, 53, 54, 55, 56, 57, 58, 59, 60, 61, 62, 63, 64, 65, 66, 67, 68, 69, 70, 71, 72, 73, 74, 75, 76, 77, 78, 79, 80, 81, 82, 83, 84, 85, 86, 87, 88, 89, 90, 91, 92, 93, 94, 95] (by decide +kernel) (by decide +kernel)
set_option maxRecDepth 20000 in
theorem gX6_cost_X6_changePair : GoodIn wsX6_cost (wsV RX6 91 RX6 yX6_changePair wsX6_changePair) := goodIn_app (goodIn_of _ (by decide +kernel)) ggX6_cost_X6_changePair
theorem dX6_cost_0 : decode cX6_cost 0 = .ok (.aload_n 0, 1) := by decide +kernel
theorem dX6_cost_1 : decode cX6_cost 1 = .ok (.iload_n 1, 1) := by decide +kernel
theorem dX6_cost_2 : decode cX6_cost 2 = .ok (.invokevirtual 78, 3) := by decide +kernel
theorem dX6_cost_5 : decode cX6_cost 5 = .ok (.ifCond .eq 18, 3) := by decide +kernel
theorem dX6_cost_8 : decode cX6_cost 8 = .ok (.aload_n 0, 1) := by decide +kernel
theorem dX6_cost_9 : decode cX6_cost 9 = .ok (.iload_n 2, 1) := by decide +kernel
theorem dX6_cost_10 : decode cX6_cost 10 = .ok (.invokevirtual 84, 3) := by decide +kernel
theorem dX6_cost_13 : decode cX6_cost 13 = .ok (.ifCond .eq 10, 3) := by decide +kernel
theorem dX6_cost_16 : decode cX6_cost 16 = .ok (.iload_n 3, 1) := by decide +kernel
theorem dX6_cost_17 : decode cX6_cost 17 = .ok (.invokestatic 57, 3) := by decide +kernel
theorem dX6_cost_20 : decode cX6_cost 20 = .ok (.ifCond .ne 5, 3) := by decide +kernel
theorem dX6_cost_23 : decode cX6_cost 23 = .ok (.iconst (-1), 1) := by decide +kernel
theorem dX6_cost_24 : decode cX6_cost 24 = .ok (.ireturn, 1) := by decide +kernel
theorem dX6_cost_25 : decode cX6_cost 25 = .ok (.ldc 90, 2) := by decide +kernel
theorem dX6_cost_27 : decode cX6_cost 27 = .ok (.aload_n 0, 1) := by decide +kernel
theorem dX6_cost_28 : decode cX6_cost 28 = .ok (.iload_n 1, 1) := by decide +kernel
theorem dX6_cost_29 : decode cX6_cost 29 = .ok (.iload_n 2, 1) := by decide +kernel
theorem dX6_cost_30 : decode cX6_cost 30 = .ok (.iload_n 3, 1) := by decide +kernel
theorem dX6_cost_31 : decode cX6_cost 31 = .ok (.invokevirtual 91, 3) := by decide +kernel
theorem dX6_cost_34 : decode cX6_cost 34 = .ok (.iadd, 1) := by decide +kernel
theorem dX6_cost_35 : decode cX6_cost 35 = .ok (.ireturn, 1) := by decide +kernel
set_option maxRecDepth 20000 in
theorem ggX6_bar_X6_isWorker : GoodIn wsX6_bar wsX6_isWorker := goodIn_r _ [6, 1, 7, 80, 81, 82, 83, 84, 85, 86, 87, 88, 89] (by decide +kernel) (by decide +kernel)
set_option maxRecDepth 20000 in
theorem gX6_bar_X6_isWorker : GoodIn wsX6_bar (wsV RX6 78 RX6 yX6_isWorker wsX6_isWorker) := goodIn_app (goodIn_of _ (by decide +kernel)) ggX6_bar_X6_isWorker
set_option maxRecDepth 20000 in
theorem ggX6_bar_X6_isTask : GoodIn wsX6_bar wsX6_isTask := goodIn_r _ [11, 1, 12, 80, 81, 82, 83, 84, 85, 86, 87, 88, 89] (by decide +kernel) (by decide +kernel)
set_option maxRecDepth 20000 in
theorem gX6_bar_X6_isTask : GoodIn wsX6_bar (wsV RX6 84 RX6 yX6_isTask wsX6_isTask) := goodIn_app (goodIn_of _ (by decide +kernel)) ggX6_bar_X6_isTask
set_option maxRecDepth 20000 in
theorem ggX6_bar_X4_isBarred : GoodIn wsX6_bar wsX4_isBarred := goodIn_r _ [17, 18, 86, 87, 88, 89] (by decide +kernel) (by decide +kernel)
set_option maxRecDepth 20000 in
theorem gX6_bar_X4_isBarred : GoodIn wsX6_bar (wsV RX6 95 RX4 yX4_isBarred wsX4_isBarred) := goodIn_app (goodIn_of _ (by decide +kernel)) ggX6_bar_X4_isBarred
set_option maxRecDepth 20000 in
theorem ggX6_bar_X6_changePair : GoodIn wsX6_bar wsX6_changePair := goodIn_r _ [22, 23, 24, 1, 25, 26, 27, 28, 29, 30, 31, 32, 33, 34, 16, 35, 36, 37, 38, 39, 40, 41, 42, 43, 44, 45, 46, 47, 48, 49, 50, 51, 52, 53, 54, 55, 56, 57, 58, 59, 60, 61, 62, 63, 64, 65, 66, 67, 68, 69, 70, 71, 72, 73, 74, 75, 76, 77, 78, 79, 18, 80, 81, 82, 83, 84, 85, 86, 87, 88, 89, 90, 91, 92, 93, 94, 95] (by decide +kernel) (by decide +kernel)
set_option maxRecDepth 20000 in
theorem gX6_bar_X6_changePair : GoodIn wsX6_bar (wsV RX6 91 RX6 yX6_changePair wsX6_changePair) := goodIn_app (goodIn_of _ (by decide +kernel)) ggX6_bar_X6_changePair
theorem dX6_bar_0 : decode cX6_bar 0 = .ok (.aload_n 0, 1) := by decide +kernel
theorem dX6_bar_1 : decode cX6_bar 1 = .ok (.iload_n 1, 1) := by decide +kernel
theorem dX6_bar_2 : decode cX6_bar 2 = .ok (.invokevirtual 78, 3) := by decide +kernel
theorem dX6_bar_5 : decode cX6_bar 5 = .ok (.ifCond .eq 11, 3) := by decide +kernel
theorem dX6_bar_8 : decode cX6_bar 8 = .ok (.aload_n 0, 1) := by decide +kernel
theorem dX6_bar_9 : decode cX6_bar 9 = .ok (.iload_n 2, 1) := by decide +kernel
theorem dX6_bar_10 : decode cX6_bar 10 = .ok (.invokevirtual 84, 3) := by decide +kernel
theorem dX6_bar_13 : decode cX6_bar 13 = .ok (.ifCond .ne 5, 3) := by decide +kernel
theorem dX6_bar_16 : decode cX6_bar 16 = .ok (.iconst (-1), 1) := by decide +kernel
theorem dX6_bar_17 : decode cX6_bar 17 = .ok (.ireturn, 1) := by decide +kernel
theorem dX6_bar_18 : decode cX6_bar 18 = .ok (.aload_n 0, 1) := by decide +kernel
theorem dX6_bar_19 : decode cX6_bar 19 = .ok (.getfield 10, 3) := by decide +kernel
theorem dX6_bar_22 : decode cX6_bar 22 = .ok (.iload_n 1, 1) := by decide +kernel
theorem dX6_bar_23 : decode cX6_bar 23 = .ok (.iload_n 2, 1) := by decide +kernel
theorem dX6_bar_24 : decode cX6_bar 24 = .ok (.invokevirtual 95, 3) := by decide +kernel
theorem dX6_bar_27 : decode cX6_bar 27 = .ok (.ifCond .eq 6, 3) := by decide +kernel
theorem dX6_bar_30 : decode cX6_bar 30 = .ok (.bipush (-2), 2) := by decide +kernel
theorem dX6_bar_32 : decode cX6_bar 32 = .ok (.ireturn, 1) := by decide +kernel
theorem dX6_bar_33 : decode cX6_bar 33 = .ok (.aload_n 0, 1) := by decide +kernel
theorem dX6_bar_34 : decode cX6_bar 34 = .ok (.iload_n 1, 1) := by decide +kernel
theorem dX6_bar_35 : decode cX6_bar 35 = .ok (.iload_n 2, 1) := by decide +kernel
theorem dX6_bar_36 : decode cX6_bar 36 = .ok (.iconst (-1), 1) := by decide +kernel
theorem dX6_bar_37 : decode cX6_bar 37 = .ok (.invokevirtual 91, 3) := by decide +kernel
theorem dX6_bar_40 : decode cX6_bar 40 = .ok (.ireturn, 1) := by decide +kernel
set_option maxRecDepth 20000 in
theorem ggX6_idle_X6_isWorker : GoodIn wsX6_idle wsX6_isWorker := goodIn_r _ [8, 2, 9, 33, 34, 35, 36, 37, 38, 39, 40, 41, 42] (by decide +kernel) (by decide +kernel)
set_option maxRecDepth 20000 in
theorem gX6_idle_X6_isWorker : GoodIn wsX6_idle (wsV RX6 78 RX6 yX6_isWorker wsX6_isWorker) := goodIn_app (goodIn_of _ (by decide +kernel)) ggX6_idle_X6_isWorker
set_option maxRecDepth 20000 in
theorem ggX6_idle_X6_isCost : GoodIn wsX6_idle wsX6_isCost := goodIn_r _ [12] (by decide +kernel) (by decide +kernel)
set_option maxRecDepth 20000 in
theorem gX6_idle_X6_isCost : GoodIn wsX6_idle (va_wsS RX6 57 yX6_isCost wsX6_isCost) := goodIn_app (goodIn_of _ (by decide +kernel)) ggX6_idle_X6_isCost
set_option maxRecDepth 20000 in
theorem ggX6_idle_X0_keep : GoodIn wsX6_idle wsX0_keep := goodIn_r _ [17, 18, 19, 20, 21, 22, 16, 23, 24, 25, 26, 27, 28, 29, 30, 31, 32, 43, 44, 39, 40, 41, 42] (by decide +kernel) (by decide +kernel)
set_option maxRecDepth 20000 in
theorem gX6_idle_X0_keep : GoodIn wsX6_idle (wsV RX6 65 RX0 yX0_keep wsX0_keep) := goodIn_app (goodIn_of _ (by decide +kernel)) ggX6_idle_X0_keep
theorem dX6_idle_0 : decode cX6_idle 0 = .ok (.aload_n 0, 1) := by decide +kernel
theorem dX6_idle_1 : decode cX6_idle 1 = .ok (.iload_n 1, 1) := by decide +kernel
theorem dX6_idle_2 : decode cX6_idle 2 = .ok (.invokevirtual 78, 3) := by decide +kernel
theorem dX6_idle_5 : decode cX6_idle 5 = .ok (.ifCond .eq 10, 3) := by decide +kernel
theorem dX6_idle_8 : decode cX6_idle 8 = .ok (.iload_n 2, 1) := by decide +kernel
theorem dX6_idle_9 : decode cX6_idle 9 = .ok (.invokestatic 57, 3) := by decide +kernel
theorem dX6_idle_12 : decode cX6_idle 12 = .ok (.ifCond .ne 5, 3) := by decide +kernel
theorem dX6_idle_15 : decode cX6_idle 15 = .ok (.iconst (-1), 1) := by decide +kernel
theorem dX6_idle_16 : decode cX6_idle 16 = .ok (.ireturn, 1) := by decide +kernel
theorem dX6_idle_17 : decode cX6_idle 17 = .ok (.aload_n 0, 1) := by decide +kernel
theorem dX6_idle_18 : decode cX6_idle 18 = .ok (.getfield 19, 3) := by decide +kernel
theorem dX6_idle_21 : decode cX6_idle 21 = .ok (.aload_n 0, 1) := by decide +kernel
theorem dX6_idle_22 : decode cX6_idle 22 = .ok (.getfield 10, 3) := by decide +kernel
theorem dX6_idle_25 : decode cX6_idle 25 = .ok (.invokevirtual 65, 3) := by decide +kernel
theorem dX6_idle_28 : decode cX6_idle 28 = .ok (.aload_n 0, 1) := by decide +kernel
theorem dX6_idle_29 : decode cX6_idle 29 = .ok (.getfield 10, 3) := by decide +kernel
theorem dX6_idle_32 : decode cX6_idle 32 = .ok (.getfield 99, 3) := by decide +kernel
theorem dX6_idle_35 : decode cX6_idle 35 = .ok (.iload_n 1, 1) := by decide +kernel
theorem dX6_idle_36 : decode cX6_idle 36 = .ok (.iaload, 1) := by decide +kernel
theorem dX6_idle_37 : decode cX6_idle 37 = .ok (.istore_n 3, 1) := by decide +kernel
theorem dX6_idle_38 : decode cX6_idle 38 = .ok (.aload_n 0, 1) := by decide +kernel
theorem dX6_idle_39 : decode cX6_idle 39 = .ok (.getfield 10, 3) := by decide +kernel
theorem dX6_idle_42 : decode cX6_idle 42 = .ok (.getfield 99, 3) := by decide +kernel
theorem dX6_idle_45 : decode cX6_idle 45 = .ok (.iload_n 1, 1) := by decide +kernel
theorem dX6_idle_46 : decode cX6_idle 46 = .ok (.iload_n 2, 1) := by decide +kernel
theorem dX6_idle_47 : decode cX6_idle 47 = .ok (.iastore, 1) := by decide +kernel
theorem dX6_idle_48 : decode cX6_idle 48 = .ok (.iload_n 3, 1) := by decide +kernel
theorem dX6_idle_49 : decode cX6_idle 49 = .ok (.ireturn, 1) := by decide +kernel
set_option maxRecDepth 20000 in
theorem ggX6_times_X6_isWorker : GoodIn wsX6_times wsX6_isWorker := goodIn_r _ [9, 2, 10, 47, 48, 49, 50, 51, 52, 53, 54, 55, 56] (by decide +kernel) (by decide +kernel)
set_option maxRecDepth 20000 in
theorem gX6_times_X6_isWorker : GoodIn wsX6_times (wsV RX6 78 RX6 yX6_isWorker wsX6_isWorker) := goodIn_app (goodIn_of _ (by decide +kernel)) ggX6_times_X6_isWorker
set_option maxRecDepth 20000 in
theorem ggX6_times_X4_greatestCost : GoodIn wsX6_times wsX4_greatestCost := goodIn_r _ [15, 16, 17, 18, 19, 20, 21, 22, 53, 54, 55, 56] (by decide +kernel) (by decide +kernel)
set_option maxRecDepth 20000 in
theorem gX6_times_X4_greatestCost : GoodIn wsX6_times (wsV RX6 104 RX4 yX4_greatestCost wsX4_greatestCost) := goodIn_app (goodIn_of _ (by decide +kernel)) ggX6_times_X4_greatestCost
set_option maxRecDepth 20000 in
theorem ggX6_times_X0_keep : GoodIn wsX6_times wsX0_keep := goodIn_r _ [27, 28, 29, 30, 31, 32, 26, 33, 34, 35, 36, 14, 37, 38, 17, 16, 18, 57, 58, 53, 54, 55, 56] (by decide +kernel) (by decide +kernel)
set_option maxRecDepth 20000 in
theorem gX6_times_X0_keep : GoodIn wsX6_times (wsV RX6 65 RX0 yX0_keep wsX0_keep) := goodIn_app (goodIn_of _ (by decide +kernel)) ggX6_times_X0_keep
set_option maxRecDepth 20000 in
theorem ggX6_times_X4_multiplyCosts : GoodIn wsX6_times wsX4_multiplyCosts := goodIn_r _ [42, 16, 17, 18, 43, 44, 45, 14, 46, 53, 54, 55, 56] (by decide +kernel) (by decide +kernel)
set_option maxRecDepth 20000 in
theorem gX6_times_X4_multiplyCosts : GoodIn wsX6_times (wsV RX6 110 RX4 yX4_multiplyCosts wsX4_multiplyCosts) := goodIn_app (goodIn_of _ (by decide +kernel)) ggX6_times_X4_multiplyCosts
theorem dX6_times_0 : decode cX6_times 0 = .ok (.aload_n 0, 1) := by decide +kernel
theorem dX6_times_1 : decode cX6_times 1 = .ok (.iload_n 1, 1) := by decide +kernel
theorem dX6_times_2 : decode cX6_times 2 = .ok (.invokevirtual 78, 3) := by decide +kernel
theorem dX6_times_5 : decode cX6_times 5 = .ok (.ifCond .eq 13, 3) := by decide +kernel
theorem dX6_times_8 : decode cX6_times 8 = .ok (.iload_n 2, 1) := by decide +kernel
theorem dX6_times_9 : decode cX6_times 9 = .ok (.ifCond .lt 9, 3) := by decide +kernel
theorem dX6_times_12 : decode cX6_times 12 = .ok (.iload_n 2, 1) := by decide +kernel
theorem dX6_times_13 : decode cX6_times 13 = .ok (.ldc 103, 2) := by decide +kernel
theorem dX6_times_15 : decode cX6_times 15 = .ok (.if_icmp .le 5, 3) := by decide +kernel
theorem dX6_times_18 : decode cX6_times 18 = .ok (.iconst (-1), 1) := by decide +kernel
theorem dX6_times_19 : decode cX6_times 19 = .ok (.ireturn, 1) := by decide +kernel
theorem dX6_times_20 : decode cX6_times 20 = .ok (.aload_n 0, 1) := by decide +kernel
theorem dX6_times_21 : decode cX6_times 21 = .ok (.getfield 10, 3) := by decide +kernel
theorem dX6_times_24 : decode cX6_times 24 = .ok (.iload_n 1, 1) := by decide +kernel
theorem dX6_times_25 : decode cX6_times 25 = .ok (.invokevirtual 104, 3) := by decide +kernel
theorem dX6_times_28 : decode cX6_times 28 = .ok (.i2l, 1) := by decide +kernel
theorem dX6_times_29 : decode cX6_times 29 = .ok (.iload_n 2, 1) := by decide +kernel
theorem dX6_times_30 : decode cX6_times 30 = .ok (.i2l, 1) := by decide +kernel
theorem dX6_times_31 : decode cX6_times 31 = .ok (.lmul, 1) := by decide +kernel
theorem dX6_times_32 : decode cX6_times 32 = .ok (.lstore_n 3, 1) := by decide +kernel
theorem dX6_times_33 : decode cX6_times 33 = .ok (.lload_n 3, 1) := by decide +kernel
theorem dX6_times_34 : decode cX6_times 34 = .ok (.ldc2_w 108, 3) := by decide +kernel
theorem dX6_times_37 : decode cX6_times 37 = .ok (.lcmp, 1) := by decide +kernel
theorem dX6_times_38 : decode cX6_times 38 = .ok (.ifCond .le 6, 3) := by decide +kernel
theorem dX6_times_41 : decode cX6_times 41 = .ok (.bipush (-3), 2) := by decide +kernel
theorem dX6_times_43 : decode cX6_times 43 = .ok (.ireturn, 1) := by decide +kernel
theorem dX6_times_44 : decode cX6_times 44 = .ok (.aload_n 0, 1) := by decide +kernel
theorem dX6_times_45 : decode cX6_times 45 = .ok (.getfield 19, 3) := by decide +kernel
theorem dX6_times_48 : decode cX6_times 48 = .ok (.aload_n 0, 1) := by decide +kernel
theorem dX6_times_49 : decode cX6_times 49 = .ok (.getfield 10, 3) := by decide +kernel
theorem dX6_times_52 : decode cX6_times 52 = .ok (.invokevirtual 65, 3) := by decide +kernel
theorem dX6_times_55 : decode cX6_times 55 = .ok (.aload_n 0, 1) := by decide +kernel
theorem dX6_times_56 : decode cX6_times 56 = .ok (.getfield 10, 3) := by decide +kernel
theorem dX6_times_59 : decode cX6_times 59 = .ok (.iload_n 1, 1) := by decide +kernel
theorem dX6_times_60 : decode cX6_times 60 = .ok (.iload_n 2, 1) := by decide +kernel
theorem dX6_times_61 : decode cX6_times 61 = .ok (.invokevirtual 110, 3) := by decide +kernel
theorem dX6_times_64 : decode cX6_times 64 = .ok (.lload_n 3, 1) := by decide +kernel
theorem dX6_times_65 : decode cX6_times 65 = .ok (.l2i, 1) := by decide +kernel
theorem dX6_times_66 : decode cX6_times 66 = .ok (.ireturn, 1) := by decide +kernel
set_option maxRecDepth 20000 in
theorem ggX6_costOf_X6_isWorker : GoodIn wsX6_costOf wsX6_isWorker := goodIn_r _ [6, 1, 7, 28, 29, 30, 31, 32, 33, 34, 35, 36, 37] (by decide +kernel) (by decide +kernel)
set_option maxRecDepth 20000 in
theorem gX6_costOf_X6_isWorker : GoodIn wsX6_costOf (wsV RX6 78 RX6 yX6_isWorker wsX6_isWorker) := goodIn_app (goodIn_of _ (by decide +kernel)) ggX6_costOf_X6_isWorker
set_option maxRecDepth 20000 in
theorem ggX6_costOf_X6_isTaskOrNone : GoodIn wsX6_costOf wsX6_isTaskOrNone := goodIn_r _ [11, 12, 13, 14, 5, 15, 1, 16, 28, 29, 30, 31, 32, 33, 34, 35, 36, 37] (by decide +kernel) (by decide +kernel)
set_option maxRecDepth 20000 in
theorem gX6_costOf_X6_isTaskOrNone : GoodIn wsX6_costOf (wsV RX6 114 RX6 yX6_isTaskOrNone wsX6_isTaskOrNone) := goodIn_app (goodIn_of _ (by decide +kernel)) ggX6_costOf_X6_isTaskOrNone
set_option maxRecDepth 20000 in
theorem ggX6_costOf_X4_isBarred : GoodIn wsX6_costOf wsX4_isBarred := goodIn_r _ [21, 22, 34, 35, 36, 37] (by decide +kernel) (by decide +kernel)
set_option maxRecDepth 20000 in
theorem gX6_costOf_X4_isBarred : GoodIn wsX6_costOf (wsV RX6 95 RX4 yX4_isBarred wsX4_isBarred) := goodIn_app (goodIn_of _ (by decide +kernel)) ggX6_costOf_X4_isBarred
set_option maxRecDepth 20000 in
theorem ggX6_costOf_X4_costWith : GoodIn wsX6_costOf wsX4_costWith := goodIn_r _ [26, 27, 22, 34, 35, 36, 37] (by decide +kernel) (by decide +kernel)
set_option maxRecDepth 20000 in
theorem gX6_costOf_X4_costWith : GoodIn wsX6_costOf (wsV RX6 117 RX4 yX4_costWith wsX4_costWith) := goodIn_app (goodIn_of _ (by decide +kernel)) ggX6_costOf_X4_costWith
theorem dX6_costOf_0 : decode cX6_costOf 0 = .ok (.aload_n 0, 1) := by decide +kernel
theorem dX6_costOf_1 : decode cX6_costOf 1 = .ok (.iload_n 1, 1) := by decide +kernel
theorem dX6_costOf_2 : decode cX6_costOf 2 = .ok (.invokevirtual 78, 3) := by decide +kernel
theorem dX6_costOf_5 : decode cX6_costOf 5 = .ok (.ifCond .eq 11, 3) := by decide +kernel
theorem dX6_costOf_8 : decode cX6_costOf 8 = .ok (.aload_n 0, 1) := by decide +kernel
theorem dX6_costOf_9 : decode cX6_costOf 9 = .ok (.iload_n 2, 1) := by decide +kernel
theorem dX6_costOf_10 : decode cX6_costOf 10 = .ok (.invokevirtual 114, 3) := by decide +kernel
theorem dX6_costOf_13 : decode cX6_costOf 13 = .ok (.ifCond .ne 5, 3) := by decide +kernel
theorem dX6_costOf_16 : decode cX6_costOf 16 = .ok (.iconst (-1), 1) := by decide +kernel
theorem dX6_costOf_17 : decode cX6_costOf 17 = .ok (.ireturn, 1) := by decide +kernel
theorem dX6_costOf_18 : decode cX6_costOf 18 = .ok (.aload_n 0, 1) := by decide +kernel
theorem dX6_costOf_19 : decode cX6_costOf 19 = .ok (.getfield 10, 3) := by decide +kernel
theorem dX6_costOf_22 : decode cX6_costOf 22 = .ok (.iload_n 1, 1) := by decide +kernel
theorem dX6_costOf_23 : decode cX6_costOf 23 = .ok (.iload_n 2, 1) := by decide +kernel
theorem dX6_costOf_24 : decode cX6_costOf 24 = .ok (.invokevirtual 95, 3) := by decide +kernel
theorem dX6_costOf_27 : decode cX6_costOf 27 = .ok (.ifCond .eq 6, 3) := by decide +kernel
theorem dX6_costOf_30 : decode cX6_costOf 30 = .ok (.bipush (-4), 2) := by decide +kernel
theorem dX6_costOf_32 : decode cX6_costOf 32 = .ok (.ireturn, 1) := by decide +kernel
theorem dX6_costOf_33 : decode cX6_costOf 33 = .ok (.aload_n 0, 1) := by decide +kernel
theorem dX6_costOf_34 : decode cX6_costOf 34 = .ok (.getfield 10, 3) := by decide +kernel
theorem dX6_costOf_37 : decode cX6_costOf 37 = .ok (.iload_n 1, 1) := by decide +kernel
theorem dX6_costOf_38 : decode cX6_costOf 38 = .ok (.iload_n 2, 1) := by decide +kernel
theorem dX6_costOf_39 : decode cX6_costOf 39 = .ok (.invokevirtual 117, 3) := by decide +kernel
theorem dX6_costOf_42 : decode cX6_costOf 42 = .ok (.ireturn, 1) := by decide +kernel
set_option maxRecDepth 20000 in
theorem ggX6_total_X1_leastTotal : GoodIn wsX6_total wsX1_leastTotal := goodIn_r _ [6, 7, 8, 9, 10, 11, 12, 13, 14, 15, 16, 5, 17, 18, 19, 20, 21, 22, 23, 24, 25, 26, 27, 28, 29, 30, 31, 32, 33, 34, 35, 36, 37, 38, 39, 46, 47, 48, 49, 50, 51, 52, 53] (by decide +kernel) (by decide +kernel)
set_option maxRecDepth 20000 in
theorem gX6_total_X1_leastTotal : GoodIn wsX6_total (wsV RX6 121 RX1 yX1_leastTotal wsX1_leastTotal) := goodIn_app (goodIn_of _ (by decide +kernel)) ggX6_total_X1_leastTotal
theorem dX6_total_0 : decode cX6_total 0 = .ok (.aload_n 0, 1) := by decide +kernel
theorem dX6_total_1 : decode cX6_total 1 = .ok (.getfield 28, 3) := by decide +kernel
theorem dX6_total_4 : decode cX6_total 4 = .ok (.invokevirtual 121, 3) := by decide +kernel
theorem dX6_total_7 : decode cX6_total 7 = .ok (.ireturn, 1) := by decide +kernel
set_option maxRecDepth 20000 in
theorem ggX6_taskOf_X6_isWorker : GoodIn wsX6_taskOf wsX6_isWorker := goodIn_r _ [7, 8, 9, 58, 59, 60, 61, 62, 63, 68, 69, 70, 71] (by decide +kernel) (by decide +kernel)
set_option maxRecDepth 20000 in
theorem gX6_taskOf_X6_isWorker : GoodIn wsX6_taskOf (wsV RX6 78 RX6 yX6_isWorker wsX6_isWorker) := goodIn_app (goodIn_of _ (by decide +kernel)) ggX6_taskOf_X6_isWorker
set_option maxRecDepth 20000 in
theorem ggX6_taskOf_X1_chooseFirst : GoodIn wsX6_taskOf wsX1_chooseFirst := goodIn_r _ [14, 15, 16, 17, 18, 19, 20, 21, 13, 22, 23, 24, 25, 26, 27, 28, 29, 30, 31, 32, 33, 34, 35, 36, 37, 38, 39, 40, 41, 42, 43, 44, 45, 46, 47, 48, 49, 50, 51, 52, 53, 54, 55, 56, 57, 64, 65, 66, 67, 68, 69, 70, 71] (by decide +kernel) (by decide +kernel)
set_option maxRecDepth 20000 in
theorem gX6_taskOf_X1_chooseFirst : GoodIn wsX6_taskOf (wsV RX6 125 RX1 yX1_chooseFirst wsX1_chooseFirst) := goodIn_app (goodIn_of _ (by decide +kernel)) ggX6_taskOf_X1_chooseFirst
theorem dX6_taskOf_0 : decode cX6_taskOf 0 = .ok (.aload_n 0, 1) := by decide +kernel
theorem dX6_taskOf_1 : decode cX6_taskOf 1 = .ok (.iload_n 1, 1) := by decide +kernel
theorem dX6_taskOf_2 : decode cX6_taskOf 2 = .ok (.invokevirtual 78, 3) := by decide +kernel
theorem dX6_taskOf_5 : decode cX6_taskOf 5 = .ok (.ifCond .ne 5, 3) := by decide +kernel
theorem dX6_taskOf_8 : decode cX6_taskOf 8 = .ok (.iconst (-1), 1) := by decide +kernel
theorem dX6_taskOf_9 : decode cX6_taskOf 9 = .ok (.ireturn, 1) := by decide +kernel
theorem dX6_taskOf_10 : decode cX6_taskOf 10 = .ok (.aload_n 0, 1) := by decide +kernel
theorem dX6_taskOf_11 : decode cX6_taskOf 11 = .ok (.getfield 28, 3) := by decide +kernel
theorem dX6_taskOf_14 : decode cX6_taskOf 14 = .ok (.invokevirtual 125, 3) := by decide +kernel
theorem dX6_taskOf_17 : decode cX6_taskOf 17 = .ok (.aload_n 0, 1) := by decide +kernel
theorem dX6_taskOf_18 : decode cX6_taskOf 18 = .ok (.getfield 28, 3) := by decide +kernel
theorem dX6_taskOf_21 : decode cX6_taskOf 21 = .ok (.getfield 128, 3) := by decide +kernel
theorem dX6_taskOf_24 : decode cX6_taskOf 24 = .ok (.iload_n 1, 1) := by decide +kernel
theorem dX6_taskOf_25 : decode cX6_taskOf 25 = .ok (.iaload, 1) := by decide +kernel
theorem dX6_taskOf_26 : decode cX6_taskOf 26 = .ok (.istore_n 2, 1) := by decide +kernel
theorem dX6_taskOf_27 : decode cX6_taskOf 27 = .ok (.iload_n 2, 1) := by decide +kernel
theorem dX6_taskOf_28 : decode cX6_taskOf 28 = .ok (.iconst (-1), 1) := by decide +kernel
theorem dX6_taskOf_29 : decode cX6_taskOf 29 = .ok (.if_icmp .ne 8, 3) := by decide +kernel
theorem dX6_taskOf_32 : decode cX6_taskOf 32 = .ok (.bipush (-4), 2) := by decide +kernel
theorem dX6_taskOf_34 : decode cX6_taskOf 34 = .ok (.goto 4, 3) := by decide +kernel
theorem dX6_taskOf_37 : decode cX6_taskOf 37 = .ok (.iload_n 2, 1) := by decide +kernel
theorem dX6_taskOf_38 : decode cX6_taskOf 38 = .ok (.ireturn, 1) := by decide +kernel
set_option maxRecDepth 20000 in
theorem ggX6_workerOf_X6_isTask : GoodIn wsX6_workerOf wsX6_isTask := goodIn_r _ [9, 2, 10, 59, 60, 61, 62, 63, 64, 65, 66, 67, 68] (by decide +kernel) (by decide +kernel)
set_option maxRecDepth 20000 in
theorem gX6_workerOf_X6_isTask : GoodIn wsX6_workerOf (wsV RX6 84 RX6 yX6_isTask wsX6_isTask) := goodIn_app (goodIn_of _ (by decide +kernel)) ggX6_workerOf_X6_isTask
set_option maxRecDepth 20000 in
theorem ggX6_workerOf_X1_chooseFirst : GoodIn wsX6_workerOf wsX1_chooseFirst := goodIn_r _ [15, 16, 17, 18, 19, 20, 21, 22, 14, 23, 24, 25, 26, 27, 28, 29, 30, 31, 32, 33, 34, 35, 36, 37, 38, 39, 40, 41, 42, 43, 44, 45, 46, 47, 48, 49, 50, 51, 52, 53, 54, 55, 56, 57, 58, 69, 70, 71, 72, 65, 66, 67, 68] (by decide +kernel) (by decide +kernel)
set_option maxRecDepth 20000 in
theorem gX6_workerOf_X1_chooseFirst : GoodIn wsX6_workerOf (wsV RX6 125 RX1 yX1_chooseFirst wsX1_chooseFirst) := goodIn_app (goodIn_of _ (by decide +kernel)) ggX6_workerOf_X1_chooseFirst
theorem dX6_workerOf_0 : decode cX6_workerOf 0 = .ok (.aload_n 0, 1) := by decide +kernel
theorem dX6_workerOf_1 : decode cX6_workerOf 1 = .ok (.iload_n 1, 1) := by decide +kernel
theorem dX6_workerOf_2 : decode cX6_workerOf 2 = .ok (.invokevirtual 84, 3) := by decide +kernel
theorem dX6_workerOf_5 : decode cX6_workerOf 5 = .ok (.ifCond .ne 5, 3) := by decide +kernel
theorem dX6_workerOf_8 : decode cX6_workerOf 8 = .ok (.iconst (-1), 1) := by decide +kernel
theorem dX6_workerOf_9 : decode cX6_workerOf 9 = .ok (.ireturn, 1) := by decide +kernel
theorem dX6_workerOf_10 : decode cX6_workerOf 10 = .ok (.aload_n 0, 1) := by decide +kernel
theorem dX6_workerOf_11 : decode cX6_workerOf 11 = .ok (.getfield 28, 3) := by decide +kernel
theorem dX6_workerOf_14 : decode cX6_workerOf 14 = .ok (.invokevirtual 125, 3) := by decide +kernel
theorem dX6_workerOf_17 : decode cX6_workerOf 17 = .ok (.iconst 0, 1) := by decide +kernel
theorem dX6_workerOf_18 : decode cX6_workerOf 18 = .ok (.istore_n 2, 1) := by decide +kernel
theorem dX6_workerOf_19 : decode cX6_workerOf 19 = .ok (.iload_n 2, 1) := by decide +kernel
theorem dX6_workerOf_20 : decode cX6_workerOf 20 = .ok (.aload_n 0, 1) := by decide +kernel
theorem dX6_workerOf_21 : decode cX6_workerOf 21 = .ok (.getfield 10, 3) := by decide +kernel
theorem dX6_workerOf_24 : decode cX6_workerOf 24 = .ok (.getfield 61, 3) := by decide +kernel
theorem dX6_workerOf_27 : decode cX6_workerOf 27 = .ok (.if_icmp .ge 24, 3) := by decide +kernel
theorem dX6_workerOf_30 : decode cX6_workerOf 30 = .ok (.aload_n 0, 1) := by decide +kernel
theorem dX6_workerOf_31 : decode cX6_workerOf 31 = .ok (.getfield 28, 3) := by decide +kernel
theorem dX6_workerOf_34 : decode cX6_workerOf 34 = .ok (.getfield 128, 3) := by decide +kernel
theorem dX6_workerOf_37 : decode cX6_workerOf 37 = .ok (.iload_n 2, 1) := by decide +kernel
theorem dX6_workerOf_38 : decode cX6_workerOf 38 = .ok (.iaload, 1) := by decide +kernel
theorem dX6_workerOf_39 : decode cX6_workerOf 39 = .ok (.iload_n 1, 1) := by decide +kernel
theorem dX6_workerOf_40 : decode cX6_workerOf 40 = .ok (.if_icmp .ne 5, 3) := by decide +kernel
theorem dX6_workerOf_43 : decode cX6_workerOf 43 = .ok (.iload_n 2, 1) := by decide +kernel
theorem dX6_workerOf_44 : decode cX6_workerOf 44 = .ok (.ireturn, 1) := by decide +kernel
theorem dX6_workerOf_45 : decode cX6_workerOf 45 = .ok (.iinc 2 1, 3) := by decide +kernel
theorem dX6_workerOf_48 : decode cX6_workerOf 48 = .ok (.goto (-29), 3) := by decide +kernel
theorem dX6_workerOf_51 : decode cX6_workerOf 51 = .ok (.bipush (-4), 2) := by decide +kernel
theorem dX6_workerOf_53 : decode cX6_workerOf 53 = .ok (.ireturn, 1) := by decide +kernel
set_option maxRecDepth 20000 in
theorem ggX6_price_X6_isTask : GoodIn wsX6_price wsX6_isTask := goodIn_r _ [7, 8, 9, 81, 82, 83, 84, 85, 86, 90, 91, 92, 93] (by decide +kernel) (by decide +kernel)
set_option maxRecDepth 20000 in
theorem gX6_price_X6_isTask : GoodIn wsX6_price (wsV RX6 84 RX6 yX6_isTask wsX6_isTask) := goodIn_app (goodIn_of _ (by decide +kernel)) ggX6_price_X6_isTask
set_option maxRecDepth 20000 in
theorem ggX6_price_X2_greatestOf : GoodIn wsX6_price wsX2_greatestOf := goodIn_r _ [14, 15, 16, 17, 18, 19, 20, 21, 22, 23, 24, 25, 26, 27, 28, 29, 30, 31, 32, 33, 34, 35, 36, 37, 38, 39, 40, 41, 42, 43, 44, 45, 46, 47, 48, 49, 87, 88, 89, 94, 95, 96, 97, 90, 91, 92, 93] (by decide +kernel) (by decide +kernel)
set_option maxRecDepth 20000 in
theorem gX6_price_X2_greatestOf : GoodIn wsX6_price (wsV RX6 134 RX2 yX2_greatestOf wsX2_greatestOf) := goodIn_app (goodIn_of _ (by decide +kernel)) ggX6_price_X2_greatestOf
set_option maxRecDepth 20000 in
theorem ggX6_price_X2_findLeast : GoodIn wsX6_price wsX2_findLeast := goodIn_r _ [53, 54, 55, 56, 15, 57, 58, 59, 60, 42, 61, 62, 63, 64, 19, 65, 21, 23, 24, 25, 26, 27, 28, 66, 67, 68, 69, 22, 29, 30, 31, 32, 33, 34, 35, 36, 37, 38, 39, 40, 41, 43, 44, 45, 46, 47, 48, 49, 70, 71, 72, 73, 74, 75, 76, 77, 78, 79, 80, 87, 88, 89, 90, 91, 92, 93, 94, 95, 96, 97] (by decide +kernel) (by decide +kernel)
set_option maxRecDepth 20000 in
theorem gX6_price_X2_findLeast : GoodIn wsX6_price (wsV RX6 137 RX2 yX2_findLeast wsX2_findLeast) := goodIn_app (goodIn_of _ (by decide +kernel)) ggX6_price_X2_findLeast
theorem dX6_price_0 : decode cX6_price 0 = .ok (.aload_n 0, 1) := by decide +kernel
theorem dX6_price_1 : decode cX6_price 1 = .ok (.iload_n 1, 1) := by decide +kernel
theorem dX6_price_2 : decode cX6_price 2 = .ok (.invokevirtual 84, 3) := by decide +kernel
theorem dX6_price_5 : decode cX6_price 5 = .ok (.ifCond .eq 12, 3) := by decide +kernel
theorem dX6_price_8 : decode cX6_price 8 = .ok (.iload_n 2, 1) := by decide +kernel
theorem dX6_price_9 : decode cX6_price 9 = .ok (.ifCond .lt 8, 3) := by decide +kernel
theorem dX6_price_12 : decode cX6_price 12 = .ok (.iload_n 2, 1) := by decide +kernel
theorem dX6_price_13 : decode cX6_price 13 = .ok (.iconst 1, 1) := by decide +kernel
theorem dX6_price_14 : decode cX6_price 14 = .ok (.if_icmp .le 5, 3) := by decide +kernel
theorem dX6_price_17 : decode cX6_price 17 = .ok (.iconst (-1), 1) := by decide +kernel
theorem dX6_price_18 : decode cX6_price 18 = .ok (.ireturn, 1) := by decide +kernel
theorem dX6_price_19 : decode cX6_price 19 = .ok (.iload_n 2, 1) := by decide +kernel
theorem dX6_price_20 : decode cX6_price 20 = .ok (.iconst 1, 1) := by decide +kernel
theorem dX6_price_21 : decode cX6_price 21 = .ok (.if_icmp .ne 12, 3) := by decide +kernel
theorem dX6_price_24 : decode cX6_price 24 = .ok (.aload_n 0, 1) := by decide +kernel
theorem dX6_price_25 : decode cX6_price 25 = .ok (.getfield 37, 3) := by decide +kernel
theorem dX6_price_28 : decode cX6_price 28 = .ok (.iload_n 1, 1) := by decide +kernel
theorem dX6_price_29 : decode cX6_price 29 = .ok (.invokevirtual 134, 3) := by decide +kernel
theorem dX6_price_32 : decode cX6_price 32 = .ok (.ireturn, 1) := by decide +kernel
theorem dX6_price_33 : decode cX6_price 33 = .ok (.aload_n 0, 1) := by decide +kernel
theorem dX6_price_34 : decode cX6_price 34 = .ok (.getfield 37, 3) := by decide +kernel
theorem dX6_price_37 : decode cX6_price 37 = .ok (.invokevirtual 137, 3) := by decide +kernel
theorem dX6_price_40 : decode cX6_price 40 = .ok (.aload_n 0, 1) := by decide +kernel
theorem dX6_price_41 : decode cX6_price 41 = .ok (.getfield 37, 3) := by decide +kernel
theorem dX6_price_44 : decode cX6_price 44 = .ok (.getfield 140, 3) := by decide +kernel
theorem dX6_price_47 : decode cX6_price 47 = .ok (.iload_n 1, 1) := by decide +kernel
theorem dX6_price_48 : decode cX6_price 48 = .ok (.iaload, 1) := by decide +kernel
theorem dX6_price_49 : decode cX6_price 49 = .ok (.ireturn, 1) := by decide +kernel
set_option maxRecDepth 20000 in
theorem ggX6_workerIs_X6_isWorker : GoodIn wsX6_workerIs wsX6_isWorker := goodIn_r _ [9, 2, 10, 88, 89, 90, 91, 92, 93, 94, 95, 96, 97] (by decide +kernel) (by decide +kernel)
set_option maxRecDepth 20000 in
theorem gX6_workerIs_X6_isWorker : GoodIn wsX6_workerIs (wsV RX6 78 RX6 yX6_isWorker wsX6_isWorker) := goodIn_app (goodIn_of _ (by decide +kernel)) ggX6_workerIs_X6_isWorker
set_option maxRecDepth 20000 in
theorem ggX6_workerIs_X1_leastTotal : GoodIn wsX6_workerIs wsX1_leastTotal := goodIn_r _ [15, 16, 17, 18, 19, 20, 21, 22, 23, 24, 25, 14, 26, 27, 28, 29, 30, 31, 32, 33, 34, 35, 36, 37, 38, 39, 40, 41, 42, 43, 44, 45, 46, 47, 48, 98, 99, 100, 101, 94, 95, 96, 97] (by decide +kernel) (by decide +kernel)
set_option maxRecDepth 20000 in
theorem gX6_workerIs_X1_leastTotal : GoodIn wsX6_workerIs (wsV RX6 121 RX1 yX1_leastTotal wsX1_leastTotal) := goodIn_app (goodIn_of _ (by decide +kernel)) ggX6_workerIs_X1_leastTotal
set_option maxRecDepth 20000 in
theorem ggX6_workerIs_X4_allWorkersBut : GoodIn wsX6_workerIs wsX4_allWorkersBut := goodIn_r _ [52, 53, 18, 19, 20, 21, 22, 94, 95, 96, 97] (by decide +kernel) (by decide +kernel)
set_option maxRecDepth 20000 in
theorem gX6_workerIs_X4_allWorkersBut : GoodIn wsX6_workerIs (wsV RX6 143 RX4 yX4_allWorkersBut wsX4_allWorkersBut) := goodIn_app (goodIn_of _ (by decide +kernel)) ggX6_workerIs_X4_allWorkersBut
set_option maxRecDepth 20000 in
theorem ggX6_workerIs_X1_leastTotalOf : GoodIn wsX6_workerIs wsX1_leastTotalOf := goodIn_r _ [26, 27, 28, 29, 30, 14, 31, 16, 32, 33, 34, 35, 36, 37, 38, 39, 40, 41, 42, 43, 44, 45, 46, 47, 48, 98, 99, 100, 101, 94, 95, 96, 97] (by decide +kernel) (by decide +kernel)
set_option maxRecDepth 20000 in
theorem gX6_workerIs_X1_leastTotalOf : GoodIn wsX6_workerIs (wsV RX6 131 RX1 yX1_leastTotalOf wsX1_leastTotalOf) := goodIn_app (goodIn_of _ (by decide +kernel)) ggX6_workerIs_X1_leastTotalOf
set_option maxRecDepth 20000 in
theorem ggX6_workerIs_X2_findLeast : GoodIn wsX6_workerIs wsX2_findLeast := goodIn_r _ [59, 60, 61, 62, 63, 64, 65, 66, 67, 41, 68, 69, 12, 13, 14, 15, 16, 17, 18, 19, 20, 21, 22, 23, 24, 25, 26, 27, 28, 29, 30, 31, 32, 33, 34, 35, 36, 37, 38, 39, 40, 42, 43, 44, 45, 46, 47, 48, 70, 50, 51, 52, 53, 71, 72, 73, 74, 75, 76, 102, 103, 104, 94, 95, 96, 97, 98, 99, 100, 101] (by decide +kernel) (by decide +kernel)
set_option maxRecDepth 20000 in
theorem gX6_workerIs_X2_findLeast : GoodIn wsX6_workerIs (wsV RX6 137 RX2 yX2_findLeast wsX2_findLeast) := goodIn_app (goodIn_of _ (by decide +kernel)) ggX6_workerIs_X2_findLeast
set_option maxRecDepth 20000 in
theorem ggX6_workerIs_X2_worthOf : GoodIn wsX6_workerIs wsX2_worthOf := goodIn_r _ [80, 60, 81, 61, 65, 62, 82, 40, 41, 42, 72, 73, 74, 20, 75, 76, 102, 103, 104, 94, 95, 96, 97] (by decide +kernel) (by decide +kernel)
set_option maxRecDepth 20000 in
theorem gX6_workerIs_X2_worthOf : GoodIn wsX6_workerIs (wsV RX6 146 RX2 yX2_worthOf wsX2_worthOf) := goodIn_app (goodIn_of _ (by decide +kernel)) ggX6_workerIs_X2_worthOf
set_option maxRecDepth 20000 in
theorem ggX6_workerIs_X2_tightTasksOf : GoodIn wsX6_workerIs wsX2_tightTasksOf := goodIn_r _ [86, 60, 61, 65, 62, 87, 78, 79, 58, 80, 81, 82, 40, 41, 42, 72, 73, 74, 20, 75, 76, 102, 103, 104, 94, 95, 96, 97] (by decide +kernel) (by decide +kernel)
set_option maxRecDepth 20000 in
theorem gX6_workerIs_X2_tightTasksOf : GoodIn wsX6_workerIs (wsV RX6 149 RX2 yX2_tightTasksOf wsX2_tightTasksOf) := goodIn_app (goodIn_of _ (by decide +kernel)) ggX6_workerIs_X2_tightTasksOf
theorem dX6_workerIs_0 : decode cX6_workerIs 0 = .ok (.aload_n 0, 1) := by decide +kernel
theorem dX6_workerIs_1 : decode cX6_workerIs 1 = .ok (.iload_n 1, 1) := by decide +kernel
theorem dX6_workerIs_2 : decode cX6_workerIs 2 = .ok (.invokevirtual 78, 3) := by decide +kernel
theorem dX6_workerIs_5 : decode cX6_workerIs 5 = .ok (.ifCond .eq 12, 3) := by decide +kernel
theorem dX6_workerIs_8 : decode cX6_workerIs 8 = .ok (.iload_n 2, 1) := by decide +kernel
theorem dX6_workerIs_9 : decode cX6_workerIs 9 = .ok (.ifCond .lt 8, 3) := by decide +kernel
theorem dX6_workerIs_12 : decode cX6_workerIs 12 = .ok (.iload_n 2, 1) := by decide +kernel
theorem dX6_workerIs_13 : decode cX6_workerIs 13 = .ok (.iconst 3, 1) := by decide +kernel
theorem dX6_workerIs_14 : decode cX6_workerIs 14 = .ok (.if_icmp .le 5, 3) := by decide +kernel
theorem dX6_workerIs_17 : decode cX6_workerIs 17 = .ok (.iconst (-1), 1) := by decide +kernel
theorem dX6_workerIs_18 : decode cX6_workerIs 18 = .ok (.ireturn, 1) := by decide +kernel
theorem dX6_workerIs_19 : decode cX6_workerIs 19 = .ok (.iload_n 2, 1) := by decide +kernel
theorem dX6_workerIs_20 : decode cX6_workerIs 20 = .ok (.iconst 3, 1) := by decide +kernel
theorem dX6_workerIs_21 : decode cX6_workerIs 21 = .ok (.if_icmp .ne 27, 3) := by decide +kernel
theorem dX6_workerIs_24 : decode cX6_workerIs 24 = .ok (.aload_n 0, 1) := by decide +kernel
theorem dX6_workerIs_25 : decode cX6_workerIs 25 = .ok (.getfield 28, 3) := by decide +kernel
theorem dX6_workerIs_28 : decode cX6_workerIs 28 = .ok (.invokevirtual 121, 3) := by decide +kernel
theorem dX6_workerIs_31 : decode cX6_workerIs 31 = .ok (.aload_n 0, 1) := by decide +kernel
theorem dX6_workerIs_32 : decode cX6_workerIs 32 = .ok (.getfield 28, 3) := by decide +kernel
theorem dX6_workerIs_35 : decode cX6_workerIs 35 = .ok (.aload_n 0, 1) := by decide +kernel
theorem dX6_workerIs_36 : decode cX6_workerIs 36 = .ok (.getfield 10, 3) := by decide +kernel
theorem dX6_workerIs_39 : decode cX6_workerIs 39 = .ok (.iload_n 1, 1) := by decide +kernel
theorem dX6_workerIs_40 : decode cX6_workerIs 40 = .ok (.invokevirtual 143, 3) := by decide +kernel
theorem dX6_workerIs_43 : decode cX6_workerIs 43 = .ok (.invokevirtual 131, 3) := by decide +kernel
theorem dX6_workerIs_46 : decode cX6_workerIs 46 = .ok (.isub, 1) := by decide +kernel
theorem dX6_workerIs_47 : decode cX6_workerIs 47 = .ok (.ireturn, 1) := by decide +kernel
theorem dX6_workerIs_48 : decode cX6_workerIs 48 = .ok (.aload_n 0, 1) := by decide +kernel
theorem dX6_workerIs_49 : decode cX6_workerIs 49 = .ok (.getfield 37, 3) := by decide +kernel
theorem dX6_workerIs_52 : decode cX6_workerIs 52 = .ok (.invokevirtual 137, 3) := by decide +kernel
theorem dX6_workerIs_55 : decode cX6_workerIs 55 = .ok (.iload_n 2, 1) := by decide +kernel
theorem dX6_workerIs_56 : decode cX6_workerIs 56 = .ok (.lookupswitch 46 #[(0, 28), (1, 37)], 28) := by decide +kernel
theorem dX6_workerIs_84 : decode cX6_workerIs 84 = .ok (.aload_n 0, 1) := by decide +kernel
theorem dX6_workerIs_85 : decode cX6_workerIs 85 = .ok (.getfield 37, 3) := by decide +kernel
theorem dX6_workerIs_88 : decode cX6_workerIs 88 = .ok (.iload_n 1, 1) := by decide +kernel
theorem dX6_workerIs_89 : decode cX6_workerIs 89 = .ok (.invokevirtual 146, 3) := by decide +kernel
theorem dX6_workerIs_92 : decode cX6_workerIs 92 = .ok (.ireturn, 1) := by decide +kernel
theorem dX6_workerIs_93 : decode cX6_workerIs 93 = .ok (.aload_n 0, 1) := by decide +kernel
theorem dX6_workerIs_94 : decode cX6_workerIs 94 = .ok (.getfield 37, 3) := by decide +kernel
theorem dX6_workerIs_97 : decode cX6_workerIs 97 = .ok (.iload_n 1, 1) := by decide +kernel
theorem dX6_workerIs_98 : decode cX6_workerIs 98 = .ok (.invokevirtual 149, 3) := by decide +kernel
theorem dX6_workerIs_101 : decode cX6_workerIs 101 = .ok (.ireturn, 1) := by decide +kernel
theorem dX6_workerIs_102 : decode cX6_workerIs 102 = .ok (.aload_n 0, 1) := by decide +kernel
theorem dX6_workerIs_103 : decode cX6_workerIs 103 = .ok (.getfield 37, 3) := by decide +kernel
theorem dX6_workerIs_106 : decode cX6_workerIs 106 = .ok (.iload_n 1, 1) := by decide +kernel
theorem dX6_workerIs_107 : decode cX6_workerIs 107 = .ok (.invokevirtual 146, 3) := by decide +kernel
theorem dX6_workerIs_110 : decode cX6_workerIs 110 = .ok (.aload_n 0, 1) := by decide +kernel
theorem dX6_workerIs_111 : decode cX6_workerIs 111 = .ok (.getfield 10, 3) := by decide +kernel
theorem dX6_workerIs_114 : decode cX6_workerIs 114 = .ok (.getfield 99, 3) := by decide +kernel
theorem dX6_workerIs_117 : decode cX6_workerIs 117 = .ok (.iload_n 1, 1) := by decide +kernel
theorem dX6_workerIs_118 : decode cX6_workerIs 118 = .ok (.iaload, 1) := by decide +kernel
theorem dX6_workerIs_119 : decode cX6_workerIs 119 = .ok (.if_icmp .ne 7, 3) := by decide +kernel
theorem dX6_workerIs_122 : decode cX6_workerIs 122 = .ok (.iconst 1, 1) := by decide +kernel
theorem dX6_workerIs_123 : decode cX6_workerIs 123 = .ok (.goto 4, 3) := by decide +kernel
theorem dX6_workerIs_126 : decode cX6_workerIs 126 = .ok (.iconst 0, 1) := by decide +kernel
theorem dX6_workerIs_127 : decode cX6_workerIs 127 = .ok (.ireturn, 1) := by decide +kernel
set_option maxRecDepth 20000 in
theorem ggX6_proof_X2_findLeast : GoodIn wsX6_proof wsX2_findLeast := goodIn_r _ [6, 7, 8, 9, 10, 11, 12, 13, 14, 15, 16, 17, 18, 19, 20, 21, 22, 23, 24, 25, 26, 27, 28, 29, 30, 31, 32, 33, 34, 35, 36, 37, 38, 39, 40, 41, 42, 43, 44, 45, 46, 47, 48, 49, 50, 51, 52, 53, 54, 55, 56, 57, 58, 59, 60, 61, 62, 63, 64, 85, 86, 87, 88, 89, 90, 91, 92, 93, 94, 95] (by decide +kernel) (by decide +kernel)
set_option maxRecDepth 20000 in
theorem gX6_proof_X2_findLeast : GoodIn wsX6_proof (wsV RX6 137 RX2 yX2_findLeast wsX2_findLeast) := goodIn_app (goodIn_of _ (by decide +kernel)) ggX6_proof_X2_findLeast
set_option maxRecDepth 20000 in
theorem ggX6_proof_X2_sumOfWorths : GoodIn wsX6_proof wsX2_sumOfWorths := goodIn_r _ [68, 7, 11, 69, 70, 71, 5, 72, 73, 8, 12, 9, 74, 46, 15, 47, 60, 61, 62, 26, 63, 64, 85, 86, 87, 88, 89, 90, 91] (by decide +kernel) (by decide +kernel)
set_option maxRecDepth 20000 in
theorem gX6_proof_X2_sumOfWorths : GoodIn wsX6_proof (wsV RX6 152 RX2 yX2_sumOfWorths wsX2_sumOfWorths) := goodIn_app (goodIn_of _ (by decide +kernel)) ggX6_proof_X2_sumOfWorths
set_option maxRecDepth 20000 in
theorem ggX6_proof_X2_sumOfLeast : GoodIn wsX6_proof wsX2_sumOfLeast := goodIn_r _ [78, 7, 8, 9, 85, 86, 87, 88, 89, 90, 91] (by decide +kernel) (by decide +kernel)
set_option maxRecDepth 20000 in
theorem gX6_proof_X2_sumOfLeast : GoodIn wsX6_proof (wsV RX6 155 RX2 yX2_sumOfLeast wsX2_sumOfLeast) := goodIn_app (goodIn_of _ (by decide +kernel)) ggX6_proof_X2_sumOfLeast
theorem dX6_proof_0 : decode cX6_proof 0 = .ok (.aload_n 0, 1) := by decide +kernel
theorem dX6_proof_1 : decode cX6_proof 1 = .ok (.getfield 37, 3) := by decide +kernel
theorem dX6_proof_4 : decode cX6_proof 4 = .ok (.invokevirtual 137, 3) := by decide +kernel
theorem dX6_proof_7 : decode cX6_proof 7 = .ok (.aload_n 0, 1) := by decide +kernel
theorem dX6_proof_8 : decode cX6_proof 8 = .ok (.getfield 37, 3) := by decide +kernel
theorem dX6_proof_11 : decode cX6_proof 11 = .ok (.invokevirtual 152, 3) := by decide +kernel
theorem dX6_proof_14 : decode cX6_proof 14 = .ok (.aload_n 0, 1) := by decide +kernel
theorem dX6_proof_15 : decode cX6_proof 15 = .ok (.getfield 37, 3) := by decide +kernel
theorem dX6_proof_18 : decode cX6_proof 18 = .ok (.invokevirtual 155, 3) := by decide +kernel
theorem dX6_proof_21 : decode cX6_proof 21 = .ok (.isub, 1) := by decide +kernel
theorem dX6_proof_22 : decode cX6_proof 22 = .ok (.ireturn, 1) := by decide +kernel
set_option maxRecDepth 20000 in
theorem ggX6_count_X4_openPairs : GoodIn wsX6_count wsX4_openPairs := goodIn_r _ [14, 15, 16, 17, 18, 19, 13, 20, 21, 137, 138, 139, 140] (by decide +kernel) (by decide +kernel)
set_option maxRecDepth 20000 in
theorem gX6_count_X4_openPairs : GoodIn wsX6_count (wsV RX6 173 RX4 yX4_openPairs wsX4_openPairs) := goodIn_app (goodIn_of _ (by decide +kernel)) ggX6_count_X4_openPairs
set_option maxRecDepth 20000 in
theorem ggX6_count_X1_chooseFirst : GoodIn wsX6_count wsX1_chooseFirst := goodIn_r _ [26, 27, 28, 29, 30, 31, 32, 33, 25, 34, 35, 36, 37, 13, 38, 15, 39, 40, 41, 42, 43, 44, 45, 46, 47, 48, 49, 50, 51, 52, 53, 54, 55, 56, 57, 58, 59, 60, 61, 62, 63, 64, 65, 66, 67, 145, 146, 147, 148, 137, 138, 139, 140] (by decide +kernel) (by decide +kernel)
set_option maxRecDepth 20000 in
theorem gX6_count_X1_chooseFirst : GoodIn wsX6_count (wsV RX6 125 RX1 yX1_chooseFirst wsX1_chooseFirst) := goodIn_app (goodIn_of _ (by decide +kernel)) ggX6_count_X1_chooseFirst
set_option maxRecDepth 20000 in
theorem ggX6_count_X1_chosenPairs : GoodIn wsX6_count wsX1_chosenPairs := goodIn_r _ [71, 28, 29, 30, 145, 146, 147, 148, 137, 138, 139, 140] (by decide +kernel) (by decide +kernel)
set_option maxRecDepth 20000 in
theorem gX6_count_X1_chosenPairs : GoodIn wsX6_count (wsV RX6 176 RX1 yX1_chosenPairs wsX1_chosenPairs) := goodIn_app (goodIn_of _ (by decide +kernel)) ggX6_count_X1_chosenPairs
set_option maxRecDepth 20000 in
theorem ggX6_count_X2_findLeast : GoodIn wsX6_count wsX2_findLeast := goodIn_r _ [76, 77, 78, 79, 80, 81, 82, 83, 84, 56, 85, 86, 32, 33, 25, 34, 28, 35, 36, 37, 13, 38, 15, 39, 40, 41, 42, 43, 44, 45, 46, 47, 48, 29, 49, 50, 51, 52, 53, 54, 55, 57, 58, 59, 60, 61, 62, 63, 87, 88, 89, 90, 91, 92, 93, 18, 19, 20, 21, 149, 150, 151, 137, 138, 139, 140, 145, 146, 147, 148] (by decide +kernel) (by decide +kernel)
set_option maxRecDepth 20000 in
theorem gX6_count_X2_findLeast : GoodIn wsX6_count (wsV RX6 137 RX2 yX2_findLeast wsX2_findLeast) := goodIn_app (goodIn_of _ (by decide +kernel)) ggX6_count_X2_findLeast
set_option maxRecDepth 20000 in
theorem ggX6_count_X2_tightPairs : GoodIn wsX6_count wsX2_tightPairs := goodIn_r _ [97, 77, 81, 98, 99, 100, 75, 101, 78, 82, 79, 102, 103, 104, 105, 106, 107, 55, 56, 57, 93, 18, 19, 13, 20, 21, 108, 109, 110, 111, 112, 113, 114, 149, 150, 151, 137, 138, 139, 140] (by decide +kernel) (by decide +kernel)
set_option maxRecDepth 20000 in
theorem gX6_count_X2_tightPairs : GoodIn wsX6_count (wsV RX6 179 RX2 yX2_tightPairs wsX2_tightPairs) := goodIn_app (goodIn_of _ (by decide +kernel)) ggX6_count_X2_tightPairs
set_option maxRecDepth 20000 in
theorem ggX6_count_X2_sumOfLeast : GoodIn wsX6_count wsX2_sumOfLeast := goodIn_r _ [118, 77, 78, 79, 149, 150, 151, 137, 138, 139, 140] (by decide +kernel) (by decide +kernel)
set_option maxRecDepth 20000 in
theorem gX6_count_X2_sumOfLeast : GoodIn wsX6_count (wsV RX6 155 RX2 yX2_sumOfLeast wsX2_sumOfLeast) := goodIn_app (goodIn_of _ (by decide +kernel)) ggX6_count_X2_sumOfLeast
set_option maxRecDepth 20000 in
theorem ggX6_count_X2_sumOfGreatest : GoodIn wsX6_count wsX2_sumOfGreatest := goodIn_r _ [122, 77, 78, 123, 124, 125, 75, 126, 80, 127, 128, 129, 25, 130, 28, 43, 35, 36, 37, 13, 38, 15, 44, 45, 46, 47, 48, 29, 49, 50, 51, 52, 53, 54, 55, 56, 57, 58, 59, 60, 61, 62, 63, 149, 150, 151, 137, 138, 139, 140, 145, 146, 147, 148] (by decide +kernel) (by decide +kernel)
set_option maxRecDepth 20000 in
theorem gX6_count_X2_sumOfGreatest : GoodIn wsX6_count (wsV RX6 182 RX2 yX2_sumOfGreatest wsX2_sumOfGreatest) := goodIn_app (goodIn_of _ (by decide +kernel)) ggX6_count_X2_sumOfGreatest
theorem dX6_count_0 : decode cX6_count 0 = .ok (.iload_n 1, 1) := by decide +kernel
theorem dX6_count_1 : decode cX6_count 1 = .ok (.tableswitch 144 0 8 #[51, 59, 67, 75, 90, 105, 120, 128, 136], 51) := by decide +kernel
theorem dX6_count_52 : decode cX6_count 52 = .ok (.aload_n 0, 1) := by decide +kernel
theorem dX6_count_53 : decode cX6_count 53 = .ok (.getfield 10, 3) := by decide +kernel
theorem dX6_count_56 : decode cX6_count 56 = .ok (.getfield 61, 3) := by decide +kernel
theorem dX6_count_59 : decode cX6_count 59 = .ok (.ireturn, 1) := by decide +kernel
theorem dX6_count_60 : decode cX6_count 60 = .ok (.aload_n 0, 1) := by decide +kernel
theorem dX6_count_61 : decode cX6_count 61 = .ok (.getfield 10, 3) := by decide +kernel
theorem dX6_count_64 : decode cX6_count 64 = .ok (.getfield 72, 3) := by decide +kernel
theorem dX6_count_67 : decode cX6_count 67 = .ok (.ireturn, 1) := by decide +kernel
theorem dX6_count_68 : decode cX6_count 68 = .ok (.aload_n 0, 1) := by decide +kernel
theorem dX6_count_69 : decode cX6_count 69 = .ok (.getfield 10, 3) := by decide +kernel
theorem dX6_count_72 : decode cX6_count 72 = .ok (.invokevirtual 173, 3) := by decide +kernel
theorem dX6_count_75 : decode cX6_count 75 = .ok (.ireturn, 1) := by decide +kernel
theorem dX6_count_76 : decode cX6_count 76 = .ok (.aload_n 0, 1) := by decide +kernel
theorem dX6_count_77 : decode cX6_count 77 = .ok (.getfield 28, 3) := by decide +kernel
theorem dX6_count_80 : decode cX6_count 80 = .ok (.invokevirtual 125, 3) := by decide +kernel
theorem dX6_count_83 : decode cX6_count 83 = .ok (.aload_n 0, 1) := by decide +kernel
theorem dX6_count_84 : decode cX6_count 84 = .ok (.getfield 28, 3) := by decide +kernel
theorem dX6_count_87 : decode cX6_count 87 = .ok (.invokevirtual 176, 3) := by decide +kernel
theorem dX6_count_90 : decode cX6_count 90 = .ok (.ireturn, 1) := by decide +kernel
theorem dX6_count_91 : decode cX6_count 91 = .ok (.aload_n 0, 1) := by decide +kernel
theorem dX6_count_92 : decode cX6_count 92 = .ok (.getfield 37, 3) := by decide +kernel
theorem dX6_count_95 : decode cX6_count 95 = .ok (.invokevirtual 137, 3) := by decide +kernel
theorem dX6_count_98 : decode cX6_count 98 = .ok (.aload_n 0, 1) := by decide +kernel
theorem dX6_count_99 : decode cX6_count 99 = .ok (.getfield 37, 3) := by decide +kernel
theorem dX6_count_102 : decode cX6_count 102 = .ok (.invokevirtual 179, 3) := by decide +kernel
theorem dX6_count_105 : decode cX6_count 105 = .ok (.ireturn, 1) := by decide +kernel
theorem dX6_count_106 : decode cX6_count 106 = .ok (.aload_n 0, 1) := by decide +kernel
theorem dX6_count_107 : decode cX6_count 107 = .ok (.getfield 37, 3) := by decide +kernel
theorem dX6_count_110 : decode cX6_count 110 = .ok (.invokevirtual 137, 3) := by decide +kernel
theorem dX6_count_113 : decode cX6_count 113 = .ok (.aload_n 0, 1) := by decide +kernel
theorem dX6_count_114 : decode cX6_count 114 = .ok (.getfield 37, 3) := by decide +kernel
theorem dX6_count_117 : decode cX6_count 117 = .ok (.invokevirtual 155, 3) := by decide +kernel
theorem dX6_count_120 : decode cX6_count 120 = .ok (.ireturn, 1) := by decide +kernel
theorem dX6_count_121 : decode cX6_count 121 = .ok (.aload_n 0, 1) := by decide +kernel
theorem dX6_count_122 : decode cX6_count 122 = .ok (.getfield 37, 3) := by decide +kernel
theorem dX6_count_125 : decode cX6_count 125 = .ok (.invokevirtual 182, 3) := by decide +kernel
theorem dX6_count_128 : decode cX6_count 128 = .ok (.ireturn, 1) := by decide +kernel
theorem dX6_count_129 : decode cX6_count 129 = .ok (.aload_n 0, 1) := by decide +kernel
theorem dX6_count_130 : decode cX6_count 130 = .ok (.getfield 19, 3) := by decide +kernel
theorem dX6_count_133 : decode cX6_count 133 = .ok (.getfield 185, 3) := by decide +kernel
theorem dX6_count_136 : decode cX6_count 136 = .ok (.ireturn, 1) := by decide +kernel
theorem dX6_count_137 : decode cX6_count 137 = .ok (.aload_n 0, 1) := by decide +kernel
theorem dX6_count_138 : decode cX6_count 138 = .ok (.getfield 44, 3) := by decide +kernel
theorem dX6_count_141 : decode cX6_count 141 = .ok (.getfield 188, 3) := by decide +kernel
theorem dX6_count_144 : decode cX6_count 144 = .ok (.ireturn, 1) := by decide +kernel
theorem dX6_count_145 : decode cX6_count 145 = .ok (.iconst (-1), 1) := by decide +kernel
theorem dX6_count_146 : decode cX6_count 146 = .ok (.ireturn, 1) := by decide +kernel
set_option maxRecDepth 20000 in
theorem ggX6_type_X5_append : GoodIn wsX6_type wsX5_append := goodIn_r _ [7, 8, 9, 16, 17] (by decide +kernel) (by decide +kernel)
set_option maxRecDepth 20000 in
theorem gX6_type_X5_append : GoodIn wsX6_type (wsV RX6 194 RX5 yX5_append wsX5_append) := goodIn_app (goodIn_of _ (by decide +kernel)) ggX6_type_X5_append
theorem dX6_type_0 : decode cX6_type 0 = .ok (.iload_n 1, 1) := by decide +kernel
theorem dX6_type_1 : decode cX6_type 1 = .ok (.bipush 32, 2) := by decide +kernel
theorem dX6_type_3 : decode cX6_type 3 = .ok (.if_icmp .lt 9, 3) := by decide +kernel
theorem dX6_type_6 : decode cX6_type 6 = .ok (.iload_n 1, 1) := by decide +kernel
theorem dX6_type_7 : decode cX6_type 7 = .ok (.bipush 126, 2) := by decide +kernel
theorem dX6_type_9 : decode cX6_type 9 = .ok (.if_icmp .le 5, 3) := by decide +kernel
theorem dX6_type_12 : decode cX6_type 12 = .ok (.iconst (-1), 1) := by decide +kernel
theorem dX6_type_13 : decode cX6_type 13 = .ok (.ireturn, 1) := by decide +kernel
theorem dX6_type_14 : decode cX6_type 14 = .ok (.aload_n 0, 1) := by decide +kernel
theorem dX6_type_15 : decode cX6_type 15 = .ok (.getfield 44, 3) := by decide +kernel
theorem dX6_type_18 : decode cX6_type 18 = .ok (.getfield 188, 3) := by decide +kernel
theorem dX6_type_21 : decode cX6_type 21 = .ok (.bipush 80, 2) := by decide +kernel
theorem dX6_type_23 : decode cX6_type 23 = .ok (.if_icmp .lt 6, 3) := by decide +kernel
theorem dX6_type_26 : decode cX6_type 26 = .ok (.bipush (-3), 2) := by decide +kernel
theorem dX6_type_28 : decode cX6_type 28 = .ok (.ireturn, 1) := by decide +kernel
theorem dX6_type_29 : decode cX6_type 29 = .ok (.aload_n 0, 1) := by decide +kernel
theorem dX6_type_30 : decode cX6_type 30 = .ok (.getfield 44, 3) := by decide +kernel
theorem dX6_type_33 : decode cX6_type 33 = .ok (.iload_n 1, 1) := by decide +kernel
theorem dX6_type_34 : decode cX6_type 34 = .ok (.i2c, 1) := by decide +kernel
theorem dX6_type_35 : decode cX6_type 35 = .ok (.invokevirtual 194, 3) := by decide +kernel
theorem dX6_type_38 : decode cX6_type 38 = .ok (.aload_n 0, 1) := by decide +kernel
theorem dX6_type_39 : decode cX6_type 39 = .ok (.getfield 44, 3) := by decide +kernel
theorem dX6_type_42 : decode cX6_type 42 = .ok (.getfield 188, 3) := by decide +kernel
theorem dX6_type_45 : decode cX6_type 45 = .ok (.ireturn, 1) := by decide +kernel
theorem dX6_clearText_0 : decode cX6_clearText 0 = .ok (.aload_n 0, 1) := by decide +kernel
theorem dX6_clearText_1 : decode cX6_clearText 1 = .ok (.getfield 44, 3) := by decide +kernel
theorem dX6_clearText_4 : decode cX6_clearText 4 = .ok (.getfield 188, 3) := by decide +kernel
theorem dX6_clearText_7 : decode cX6_clearText 7 = .ok (.istore_n 1, 1) := by decide +kernel
theorem dX6_clearText_8 : decode cX6_clearText 8 = .ok (.aload_n 0, 1) := by decide +kernel
theorem dX6_clearText_9 : decode cX6_clearText 9 = .ok (.getfield 44, 3) := by decide +kernel
theorem dX6_clearText_12 : decode cX6_clearText 12 = .ok (.iconst 0, 1) := by decide +kernel
theorem dX6_clearText_13 : decode cX6_clearText 13 = .ok (.putfield 188, 3) := by decide +kernel
theorem dX6_clearText_16 : decode cX6_clearText 16 = .ok (.iload_n 1, 1) := by decide +kernel
theorem dX6_clearText_17 : decode cX6_clearText 17 = .ok (.ireturn, 1) := by decide +kernel
set_option maxRecDepth 20000 in
theorem ggX6_fault_X3_readText : GoodIn wsX6_fault wsX3_readText := goodIn_r _ [8, 9, 10, 11, 12, 13, 14, 15, 16, 17, 7, 18, 19, 20, 21, 22, 23, 24, 25, 26, 27, 28, 29, 30, 31, 32, 33, 34, 35, 36, 37, 38, 39, 40, 41, 42, 43, 44, 45, 46, 47, 48, 55, 56, 57, 58, 59, 60, 61, 62, 63, 64] (by decide +kernel) (by decide +kernel)
set_option maxRecDepth 20000 in
theorem gX6_fault_X3_readText : GoodIn wsX6_fault (wsV RX6 198 RX3 yX3_readText wsX3_readText) := goodIn_app (goodIn_of _ (by decide +kernel)) ggX6_fault_X3_readText
theorem dX6_fault_0 : decode cX6_fault 0 = .ok (.iload_n 1, 1) := by decide +kernel
theorem dX6_fault_1 : decode cX6_fault 1 = .ok (.ifCond .lt 8, 3) := by decide +kernel
theorem dX6_fault_4 : decode cX6_fault 4 = .ok (.iload_n 1, 1) := by decide +kernel
theorem dX6_fault_5 : decode cX6_fault 5 = .ok (.iconst 1, 1) := by decide +kernel
theorem dX6_fault_6 : decode cX6_fault 6 = .ok (.if_icmp .le 5, 3) := by decide +kernel
theorem dX6_fault_9 : decode cX6_fault 9 = .ok (.iconst (-1), 1) := by decide +kernel
theorem dX6_fault_10 : decode cX6_fault 10 = .ok (.ireturn, 1) := by decide +kernel
theorem dX6_fault_11 : decode cX6_fault 11 = .ok (.aload_n 0, 1) := by decide +kernel
theorem dX6_fault_12 : decode cX6_fault 12 = .ok (.getfield 53, 3) := by decide +kernel
theorem dX6_fault_15 : decode cX6_fault 15 = .ok (.invokevirtual 198, 3) := by decide +kernel
theorem dX6_fault_18 : decode cX6_fault 18 = .ok (.aload_n 0, 1) := by decide +kernel
theorem dX6_fault_19 : decode cX6_fault 19 = .ok (.getfield 53, 3) := by decide +kernel
theorem dX6_fault_22 : decode cX6_fault 22 = .ok (.getfield 201, 3) := by decide +kernel
theorem dX6_fault_25 : decode cX6_fault 25 = .ok (.ifCond .ne 6, 3) := by decide +kernel
theorem dX6_fault_28 : decode cX6_fault 28 = .ok (.bipush (-4), 2) := by decide +kernel
theorem dX6_fault_30 : decode cX6_fault 30 = .ok (.ireturn, 1) := by decide +kernel
theorem dX6_fault_31 : decode cX6_fault 31 = .ok (.iload_n 1, 1) := by decide +kernel
theorem dX6_fault_32 : decode cX6_fault 32 = .ok (.ifCond .ne 13, 3) := by decide +kernel
theorem dX6_fault_35 : decode cX6_fault 35 = .ok (.aload_n 0, 1) := by decide +kernel
theorem dX6_fault_36 : decode cX6_fault 36 = .ok (.getfield 53, 3) := by decide +kernel
theorem dX6_fault_39 : decode cX6_fault 39 = .ok (.getfield 204, 3) := by decide +kernel
theorem dX6_fault_42 : decode cX6_fault 42 = .ok (.goto 10, 3) := by decide +kernel
theorem dX6_fault_45 : decode cX6_fault 45 = .ok (.aload_n 0, 1) := by decide +kernel
theorem dX6_fault_46 : decode cX6_fault 46 = .ok (.getfield 53, 3) := by decide +kernel
theorem dX6_fault_49 : decode cX6_fault 49 = .ok (.getfield 201, 3) := by decide +kernel
theorem dX6_fault_52 : decode cX6_fault 52 = .ok (.ireturn, 1) := by decide +kernel
set_option maxRecDepth 20000 in
theorem ggX6_read_X3_readText : GoodIn wsX6_read wsX3_readText := goodIn_r _ [11, 12, 13, 14, 15, 16, 17, 18, 19, 20, 10, 21, 22, 23, 24, 25, 26, 27, 28, 29, 30, 31, 32, 33, 34, 35, 36, 37, 38, 39, 40, 41, 42, 43, 44, 45, 46, 47, 48, 49, 50, 51, 115, 116, 117, 118, 119, 120, 121, 122, 123, 124] (by decide +kernel) (by decide +kernel)
set_option maxRecDepth 20000 in
theorem gX6_read_X3_readText : GoodIn wsX6_read (wsV RX6 198 RX3 yX3_readText wsX3_readText) := goodIn_app (goodIn_of _ (by decide +kernel)) ggX6_read_X3_readText
set_option maxRecDepth 20000 in
theorem ggX6_read_X0_keep : GoodIn wsX6_read wsX0_keep := goodIn_r _ [56, 57, 58, 59, 60, 61, 55, 62, 63, 64, 65, 66, 67, 68, 69, 70, 71, 125, 126, 119, 120, 121, 122] (by decide +kernel) (by decide +kernel)
set_option maxRecDepth 20000 in
theorem gX6_read_X0_keep : GoodIn wsX6_read (wsV RX6 65 RX0 yX0_keep wsX0_keep) := goodIn_app (goodIn_of _ (by decide +kernel)) ggX6_read_X0_keep
set_option maxRecDepth 20000 in
theorem ggX6_read_X4_copyFrom : GoodIn wsX6_read wsX4_copyFrom := goodIn_r _ [67, 68, 69, 70, 71, 119, 120, 121, 122] (by decide +kernel) (by decide +kernel)
set_option maxRecDepth 20000 in
theorem gX6_read_X4_copyFrom : GoodIn wsX6_read (wsV RX6 210 RX4 yX4_copyFrom wsX4_copyFrom) := goodIn_app (goodIn_of _ (by decide +kernel)) ggX6_read_X4_copyFrom
set_option maxRecDepth 20000 in
theorem ggX6_read_X1_leastTotal : GoodIn wsX6_read wsX1_leastTotal := goodIn_r _ [77, 78, 79, 80, 81, 66, 82, 68, 83, 84, 85, 76, 86, 87, 88, 89, 90, 91, 92, 93, 94, 95, 96, 97, 98, 99, 100, 101, 102, 103, 104, 105, 106, 107, 108, 127, 128, 129, 130, 119, 120, 121, 122] (by decide +kernel) (by decide +kernel)
set_option maxRecDepth 20000 in
theorem gX6_read_X1_leastTotal : GoodIn wsX6_read (wsV RX6 121 RX1 yX1_leastTotal wsX1_leastTotal) := goodIn_app (goodIn_of _ (by decide +kernel)) ggX6_read_X1_leastTotal
theorem dX6_read_0 : decode cX6_read 0 = .ok (.aload_n 0, 1) := by decide +kernel
theorem dX6_read_1 : decode cX6_read 1 = .ok (.getfield 53, 3) := by decide +kernel
theorem dX6_read_4 : decode cX6_read 4 = .ok (.invokevirtual 198, 3) := by decide +kernel
theorem dX6_read_7 : decode cX6_read 7 = .ok (.aload_n 0, 1) := by decide +kernel
theorem dX6_read_8 : decode cX6_read 8 = .ok (.getfield 53, 3) := by decide +kernel
theorem dX6_read_11 : decode cX6_read 11 = .ok (.getfield 201, 3) := by decide +kernel
theorem dX6_read_14 : decode cX6_read 14 = .ok (.ifCond .eq 6, 3) := by decide +kernel
theorem dX6_read_17 : decode cX6_read 17 = .ok (.bipush (-2), 2) := by decide +kernel
theorem dX6_read_19 : decode cX6_read 19 = .ok (.ireturn, 1) := by decide +kernel
theorem dX6_read_20 : decode cX6_read 20 = .ok (.aload_n 0, 1) := by decide +kernel
theorem dX6_read_21 : decode cX6_read 21 = .ok (.getfield 19, 3) := by decide +kernel
theorem dX6_read_24 : decode cX6_read 24 = .ok (.aload_n 0, 1) := by decide +kernel
theorem dX6_read_25 : decode cX6_read 25 = .ok (.getfield 10, 3) := by decide +kernel
theorem dX6_read_28 : decode cX6_read 28 = .ok (.invokevirtual 65, 3) := by decide +kernel
theorem dX6_read_31 : decode cX6_read 31 = .ok (.aload_n 0, 1) := by decide +kernel
theorem dX6_read_32 : decode cX6_read 32 = .ok (.getfield 10, 3) := by decide +kernel
theorem dX6_read_35 : decode cX6_read 35 = .ok (.aload_n 0, 1) := by decide +kernel
theorem dX6_read_36 : decode cX6_read 36 = .ok (.getfield 53, 3) := by decide +kernel
theorem dX6_read_39 : decode cX6_read 39 = .ok (.getfield 207, 3) := by decide +kernel
theorem dX6_read_42 : decode cX6_read 42 = .ok (.invokevirtual 210, 3) := by decide +kernel
theorem dX6_read_45 : decode cX6_read 45 = .ok (.aload_n 0, 1) := by decide +kernel
theorem dX6_read_46 : decode cX6_read 46 = .ok (.getfield 28, 3) := by decide +kernel
theorem dX6_read_49 : decode cX6_read 49 = .ok (.invokevirtual 121, 3) := by decide +kernel
theorem dX6_read_52 : decode cX6_read 52 = .ok (.ireturn, 1) := by decide +kernel
theorem dX6_isWorker_0 : decode cX6_isWorker 0 = .ok (.iload_n 1, 1) := by decide +kernel
theorem dX6_isWorker_1 : decode cX6_isWorker 1 = .ok (.ifCond .lt 18, 3) := by decide +kernel
theorem dX6_isWorker_4 : decode cX6_isWorker 4 = .ok (.iload_n 1, 1) := by decide +kernel
theorem dX6_isWorker_5 : decode cX6_isWorker 5 = .ok (.aload_n 0, 1) := by decide +kernel
theorem dX6_isWorker_6 : decode cX6_isWorker 6 = .ok (.getfield 10, 3) := by decide +kernel
theorem dX6_isWorker_9 : decode cX6_isWorker 9 = .ok (.getfield 61, 3) := by decide +kernel
theorem dX6_isWorker_12 : decode cX6_isWorker 12 = .ok (.if_icmp .ge 7, 3) := by decide +kernel
theorem dX6_isWorker_15 : decode cX6_isWorker 15 = .ok (.iconst 1, 1) := by decide +kernel
theorem dX6_isWorker_16 : decode cX6_isWorker 16 = .ok (.goto 4, 3) := by decide +kernel
theorem dX6_isWorker_19 : decode cX6_isWorker 19 = .ok (.iconst 0, 1) := by decide +kernel
theorem dX6_isWorker_20 : decode cX6_isWorker 20 = .ok (.ireturn, 1) := by decide +kernel
theorem dX6_isTask_0 : decode cX6_isTask 0 = .ok (.iload_n 1, 1) := by decide +kernel
theorem dX6_isTask_1 : decode cX6_isTask 1 = .ok (.ifCond .lt 18, 3) := by decide +kernel
theorem dX6_isTask_4 : decode cX6_isTask 4 = .ok (.iload_n 1, 1) := by decide +kernel
theorem dX6_isTask_5 : decode cX6_isTask 5 = .ok (.aload_n 0, 1) := by decide +kernel
theorem dX6_isTask_6 : decode cX6_isTask 6 = .ok (.getfield 10, 3) := by decide +kernel
theorem dX6_isTask_9 : decode cX6_isTask 9 = .ok (.getfield 72, 3) := by decide +kernel
theorem dX6_isTask_12 : decode cX6_isTask 12 = .ok (.if_icmp .ge 7, 3) := by decide +kernel
theorem dX6_isTask_15 : decode cX6_isTask 15 = .ok (.iconst 1, 1) := by decide +kernel
theorem dX6_isTask_16 : decode cX6_isTask 16 = .ok (.goto 4, 3) := by decide +kernel
theorem dX6_isTask_19 : decode cX6_isTask 19 = .ok (.iconst 0, 1) := by decide +kernel
theorem dX6_isTask_20 : decode cX6_isTask 20 = .ok (.ireturn, 1) := by decide +kernel
set_option maxRecDepth 20000 in
theorem ggX6_isTaskOrNone_X6_isTask : GoodIn wsX6_isTaskOrNone wsX6_isTask := goodIn_r _ [5, 6, 7, 8, 9, 10, 11, 12, 13, 14, 15, 16, 17] (by decide +kernel) (by decide +kernel)
set_option maxRecDepth 20000 in
theorem gX6_isTaskOrNone_X6_isTask : GoodIn wsX6_isTaskOrNone (wsV RX6 84 RX6 yX6_isTask wsX6_isTask) := goodIn_app (goodIn_of _ (by decide +kernel)) ggX6_isTaskOrNone_X6_isTask
theorem dX6_isTaskOrNone_0 : decode cX6_isTaskOrNone 0 = .ok (.iload_n 1, 1) := by decide +kernel
theorem dX6_isTaskOrNone_1 : decode cX6_isTaskOrNone 1 = .ok (.iconst (-1), 1) := by decide +kernel
theorem dX6_isTaskOrNone_2 : decode cX6_isTaskOrNone 2 = .ok (.if_icmp .eq 11, 3) := by decide +kernel
theorem dX6_isTaskOrNone_5 : decode cX6_isTaskOrNone 5 = .ok (.aload_n 0, 1) := by decide +kernel
theorem dX6_isTaskOrNone_6 : decode cX6_isTaskOrNone 6 = .ok (.iload_n 1, 1) := by decide +kernel
theorem dX6_isTaskOrNone_7 : decode cX6_isTaskOrNone 7 = .ok (.invokevirtual 84, 3) := by decide +kernel
theorem dX6_isTaskOrNone_10 : decode cX6_isTaskOrNone 10 = .ok (.ifCond .eq 7, 3) := by decide +kernel
theorem dX6_isTaskOrNone_13 : decode cX6_isTaskOrNone 13 = .ok (.iconst 1, 1) := by decide +kernel
theorem dX6_isTaskOrNone_14 : decode cX6_isTaskOrNone 14 = .ok (.goto 4, 3) := by decide +kernel
theorem dX6_isTaskOrNone_17 : decode cX6_isTaskOrNone 17 = .ok (.iconst 0, 1) := by decide +kernel
theorem dX6_isTaskOrNone_18 : decode cX6_isTaskOrNone 18 = .ok (.ireturn, 1) := by decide +kernel
theorem dX6_isCost_0 : decode cX6_isCost 0 = .ok (.iload_n 0, 1) := by decide +kernel
theorem dX6_isCost_1 : decode cX6_isCost 1 = .ok (.ifCond .lt 14, 3) := by decide +kernel
theorem dX6_isCost_4 : decode cX6_isCost 4 = .ok (.iload_n 0, 1) := by decide +kernel
theorem dX6_isCost_5 : decode cX6_isCost 5 = .ok (.sipush 9999, 3) := by decide +kernel
theorem dX6_isCost_8 : decode cX6_isCost 8 = .ok (.if_icmp .gt 7, 3) := by decide +kernel
theorem dX6_isCost_11 : decode cX6_isCost 11 = .ok (.iconst 1, 1) := by decide +kernel
theorem dX6_isCost_12 : decode cX6_isCost 12 = .ok (.goto 4, 3) := by decide +kernel
theorem dX6_isCost_15 : decode cX6_isCost 15 = .ok (.iconst 0, 1) := by decide +kernel
theorem dX6_isCost_16 : decode cX6_isCost 16 = .ok (.ireturn, 1) := by decide +kernel
set_option maxRecDepth 20000 in
theorem ggX6_changePair_X1_leastTotal : GoodIn wsX6_changePair wsX1_leastTotal := goodIn_r _ [9, 10, 11, 12, 13, 14, 15, 16, 17, 18, 19, 8, 20, 21, 22, 23, 24, 25, 26, 27, 28, 29, 30, 31, 32, 33, 34, 35, 36, 37, 38, 39, 40, 41, 42, 71, 72, 73, 74, 67, 68, 69, 70] (by decide +kernel) (by decide +kernel)
set_option maxRecDepth 20000 in
theorem gX6_changePair_X1_leastTotal : GoodIn wsX6_changePair (wsV RX6 121 RX1 yX1_leastTotal wsX1_leastTotal) := goodIn_app (goodIn_of _ (by decide +kernel)) ggX6_changePair_X1_leastTotal
set_option maxRecDepth 20000 in
theorem ggX6_changePair_X0_keep : GoodIn wsX6_changePair wsX0_keep := goodIn_r _ [47, 48, 49, 50, 51, 52, 46, 53, 54, 55, 56, 14, 57, 16, 58, 59, 60, 75, 76, 67, 68, 69, 70] (by decide +kernel) (by decide +kernel)
set_option maxRecDepth 20000 in
theorem gX6_changePair_X0_keep : GoodIn wsX6_changePair (wsV RX6 65 RX0 yX0_keep wsX0_keep) := goodIn_app (goodIn_of _ (by decide +kernel)) ggX6_changePair_X0_keep
theorem dX6_changePair_0 : decode cX6_changePair 0 = .ok (.aload_n 0, 1) := by decide +kernel
theorem dX6_changePair_1 : decode cX6_changePair 1 = .ok (.getfield 28, 3) := by decide +kernel
theorem dX6_changePair_4 : decode cX6_changePair 4 = .ok (.invokevirtual 121, 3) := by decide +kernel
theorem dX6_changePair_7 : decode cX6_changePair 7 = .ok (.istore 4, 2) := by decide +kernel
theorem dX6_changePair_9 : decode cX6_changePair 9 = .ok (.aload_n 0, 1) := by decide +kernel
theorem dX6_changePair_10 : decode cX6_changePair 10 = .ok (.getfield 19, 3) := by decide +kernel
theorem dX6_changePair_13 : decode cX6_changePair 13 = .ok (.aload_n 0, 1) := by decide +kernel
theorem dX6_changePair_14 : decode cX6_changePair 14 = .ok (.getfield 10, 3) := by decide +kernel
theorem dX6_changePair_17 : decode cX6_changePair 17 = .ok (.invokevirtual 65, 3) := by decide +kernel
theorem dX6_changePair_20 : decode cX6_changePair 20 = .ok (.aload_n 0, 1) := by decide +kernel
theorem dX6_changePair_21 : decode cX6_changePair 21 = .ok (.getfield 10, 3) := by decide +kernel
theorem dX6_changePair_24 : decode cX6_changePair 24 = .ok (.getfield 213, 3) := by decide +kernel
theorem dX6_changePair_27 : decode cX6_changePair 27 = .ok (.iload_n 1, 1) := by decide +kernel
theorem dX6_changePair_28 : decode cX6_changePair 28 = .ok (.aaload, 1) := by decide +kernel
theorem dX6_changePair_29 : decode cX6_changePair 29 = .ok (.iload_n 2, 1) := by decide +kernel
theorem dX6_changePair_30 : decode cX6_changePair 30 = .ok (.iload_n 3, 1) := by decide +kernel
theorem dX6_changePair_31 : decode cX6_changePair 31 = .ok (.iastore, 1) := by decide +kernel
theorem dX6_changePair_32 : decode cX6_changePair 32 = .ok (.aload_n 0, 1) := by decide +kernel
theorem dX6_changePair_33 : decode cX6_changePair 33 = .ok (.getfield 28, 3) := by decide +kernel
theorem dX6_changePair_36 : decode cX6_changePair 36 = .ok (.invokevirtual 121, 3) := by decide +kernel
theorem dX6_changePair_39 : decode cX6_changePair 39 = .ok (.iload 4, 2) := by decide +kernel
theorem dX6_changePair_41 : decode cX6_changePair 41 = .ok (.isub, 1) := by decide +kernel
theorem dX6_changePair_42 : decode cX6_changePair 42 = .ok (.ireturn, 1) := by decide +kernel
