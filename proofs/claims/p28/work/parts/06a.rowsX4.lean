theorem dX4_init_0 : decode cX4_init 0 = .ok (.aload_n 0, 1) := by decide +kernel
theorem dX4_init_1 : decode cX4_init 1 = .ok (.invokespecial 3, 3) := by decide +kernel
theorem dX4_init_4 : decode cX4_init 4 = .ok (.aload_n 0, 1) := by decide +kernel
theorem dX4_init_5 : decode cX4_init 5 = .ok (.bipush 7, 2) := by decide +kernel
theorem dX4_init_7 : decode cX4_init 7 = .ok (.newarray .int, 2) := by decide +kernel
theorem dX4_init_9 : decode cX4_init 9 = .ok (.putfield 9, 3) := by decide +kernel
theorem dX4_init_12 : decode cX4_init 12 = .ok (.aload_n 0, 1) := by decide +kernel
theorem dX4_init_13 : decode cX4_init 13 = .ok (.bipush 7, 2) := by decide +kernel
theorem dX4_init_15 : decode cX4_init 15 = .ok (.bipush 7, 2) := by decide +kernel
theorem dX4_init_17 : decode cX4_init 17 = .ok (.multianewarray 15 2, 4) := by decide +kernel
theorem dX4_init_21 : decode cX4_init 21 = .ok (.putfield 17, 3) := by decide +kernel
theorem dX4_init_24 : decode cX4_init 24 = .ok (.return_, 1) := by decide +kernel
theorem dX4_copyFrom_0 : decode cX4_copyFrom 0 = .ok (.aload_n 0, 1) := by decide +kernel
theorem dX4_copyFrom_1 : decode cX4_copyFrom 1 = .ok (.aload_n 1, 1) := by decide +kernel
theorem dX4_copyFrom_2 : decode cX4_copyFrom 2 = .ok (.getfield 20, 3) := by decide +kernel
theorem dX4_copyFrom_5 : decode cX4_copyFrom 5 = .ok (.putfield 20, 3) := by decide +kernel
theorem dX4_copyFrom_8 : decode cX4_copyFrom 8 = .ok (.aload_n 0, 1) := by decide +kernel
theorem dX4_copyFrom_9 : decode cX4_copyFrom 9 = .ok (.aload_n 1, 1) := by decide +kernel
theorem dX4_copyFrom_10 : decode cX4_copyFrom 10 = .ok (.getfield 24, 3) := by decide +kernel
theorem dX4_copyFrom_13 : decode cX4_copyFrom 13 = .ok (.putfield 24, 3) := by decide +kernel
theorem dX4_copyFrom_16 : decode cX4_copyFrom 16 = .ok (.iconst 0, 1) := by decide +kernel
theorem dX4_copyFrom_17 : decode cX4_copyFrom 17 = .ok (.istore_n 2, 1) := by decide +kernel
theorem dX4_copyFrom_18 : decode cX4_copyFrom 18 = .ok (.iload_n 2, 1) := by decide +kernel
theorem dX4_copyFrom_19 : decode cX4_copyFrom 19 = .ok (.bipush 7, 2) := by decide +kernel
theorem dX4_copyFrom_21 : decode cX4_copyFrom 21 = .ok (.if_icmp .ge 51, 3) := by decide +kernel
theorem dX4_copyFrom_24 : decode cX4_copyFrom 24 = .ok (.aload_n 0, 1) := by decide +kernel
theorem dX4_copyFrom_25 : decode cX4_copyFrom 25 = .ok (.getfield 9, 3) := by decide +kernel
theorem dX4_copyFrom_28 : decode cX4_copyFrom 28 = .ok (.iload_n 2, 1) := by decide +kernel
theorem dX4_copyFrom_29 : decode cX4_copyFrom 29 = .ok (.aload_n 1, 1) := by decide +kernel
theorem dX4_copyFrom_30 : decode cX4_copyFrom 30 = .ok (.getfield 9, 3) := by decide +kernel
theorem dX4_copyFrom_33 : decode cX4_copyFrom 33 = .ok (.iload_n 2, 1) := by decide +kernel
theorem dX4_copyFrom_34 : decode cX4_copyFrom 34 = .ok (.iaload, 1) := by decide +kernel
theorem dX4_copyFrom_35 : decode cX4_copyFrom 35 = .ok (.iastore, 1) := by decide +kernel
theorem dX4_copyFrom_36 : decode cX4_copyFrom 36 = .ok (.iconst 0, 1) := by decide +kernel
theorem dX4_copyFrom_37 : decode cX4_copyFrom 37 = .ok (.istore_n 3, 1) := by decide +kernel
theorem dX4_copyFrom_38 : decode cX4_copyFrom 38 = .ok (.iload_n 3, 1) := by decide +kernel
theorem dX4_copyFrom_39 : decode cX4_copyFrom 39 = .ok (.bipush 7, 2) := by decide +kernel
theorem dX4_copyFrom_41 : decode cX4_copyFrom 41 = .ok (.if_icmp .ge 25, 3) := by decide +kernel
theorem dX4_copyFrom_44 : decode cX4_copyFrom 44 = .ok (.aload_n 0, 1) := by decide +kernel
theorem dX4_copyFrom_45 : decode cX4_copyFrom 45 = .ok (.getfield 17, 3) := by decide +kernel
theorem dX4_copyFrom_48 : decode cX4_copyFrom 48 = .ok (.iload_n 2, 1) := by decide +kernel
theorem dX4_copyFrom_49 : decode cX4_copyFrom 49 = .ok (.aaload, 1) := by decide +kernel
theorem dX4_copyFrom_50 : decode cX4_copyFrom 50 = .ok (.iload_n 3, 1) := by decide +kernel
theorem dX4_copyFrom_51 : decode cX4_copyFrom 51 = .ok (.aload_n 1, 1) := by decide +kernel
theorem dX4_copyFrom_52 : decode cX4_copyFrom 52 = .ok (.getfield 17, 3) := by decide +kernel
theorem dX4_copyFrom_55 : decode cX4_copyFrom 55 = .ok (.iload_n 2, 1) := by decide +kernel
theorem dX4_copyFrom_56 : decode cX4_copyFrom 56 = .ok (.aaload, 1) := by decide +kernel
theorem dX4_copyFrom_57 : decode cX4_copyFrom 57 = .ok (.iload_n 3, 1) := by decide +kernel
theorem dX4_copyFrom_58 : decode cX4_copyFrom 58 = .ok (.iaload, 1) := by decide +kernel
theorem dX4_copyFrom_59 : decode cX4_copyFrom 59 = .ok (.iastore, 1) := by decide +kernel
theorem dX4_copyFrom_60 : decode cX4_copyFrom 60 = .ok (.iinc 3 1, 3) := by decide +kernel
theorem dX4_copyFrom_63 : decode cX4_copyFrom 63 = .ok (.goto (-25), 3) := by decide +kernel
theorem dX4_copyFrom_66 : decode cX4_copyFrom 66 = .ok (.iinc 2 1, 3) := by decide +kernel
theorem dX4_copyFrom_69 : decode cX4_copyFrom 69 = .ok (.goto (-51), 3) := by decide +kernel
theorem dX4_copyFrom_72 : decode cX4_copyFrom 72 = .ok (.return_, 1) := by decide +kernel
theorem dX4_addWorker_0 : decode cX4_addWorker 0 = .ok (.aload_n 0, 1) := by decide +kernel
theorem dX4_addWorker_1 : decode cX4_addWorker 1 = .ok (.getfield 9, 3) := by decide +kernel
theorem dX4_addWorker_4 : decode cX4_addWorker 4 = .ok (.aload_n 0, 1) := by decide +kernel
theorem dX4_addWorker_5 : decode cX4_addWorker 5 = .ok (.getfield 20, 3) := by decide +kernel
theorem dX4_addWorker_8 : decode cX4_addWorker 8 = .ok (.iload_n 1, 1) := by decide +kernel
theorem dX4_addWorker_9 : decode cX4_addWorker 9 = .ok (.iastore, 1) := by decide +kernel
theorem dX4_addWorker_10 : decode cX4_addWorker 10 = .ok (.iconst 0, 1) := by decide +kernel
theorem dX4_addWorker_11 : decode cX4_addWorker 11 = .ok (.istore_n 2, 1) := by decide +kernel
theorem dX4_addWorker_12 : decode cX4_addWorker 12 = .ok (.iload_n 2, 1) := by decide +kernel
theorem dX4_addWorker_13 : decode cX4_addWorker 13 = .ok (.aload_n 0, 1) := by decide +kernel
theorem dX4_addWorker_14 : decode cX4_addWorker 14 = .ok (.getfield 24, 3) := by decide +kernel
theorem dX4_addWorker_17 : decode cX4_addWorker 17 = .ok (.if_icmp .ge 21, 3) := by decide +kernel
theorem dX4_addWorker_20 : decode cX4_addWorker 20 = .ok (.aload_n 0, 1) := by decide +kernel
theorem dX4_addWorker_21 : decode cX4_addWorker 21 = .ok (.getfield 17, 3) := by decide +kernel
theorem dX4_addWorker_24 : decode cX4_addWorker 24 = .ok (.aload_n 0, 1) := by decide +kernel
theorem dX4_addWorker_25 : decode cX4_addWorker 25 = .ok (.getfield 20, 3) := by decide +kernel
theorem dX4_addWorker_28 : decode cX4_addWorker 28 = .ok (.aaload, 1) := by decide +kernel
theorem dX4_addWorker_29 : decode cX4_addWorker 29 = .ok (.iload_n 2, 1) := by decide +kernel
theorem dX4_addWorker_30 : decode cX4_addWorker 30 = .ok (.iconst (-1), 1) := by decide +kernel
theorem dX4_addWorker_31 : decode cX4_addWorker 31 = .ok (.iastore, 1) := by decide +kernel
theorem dX4_addWorker_32 : decode cX4_addWorker 32 = .ok (.iinc 2 1, 3) := by decide +kernel
theorem dX4_addWorker_35 : decode cX4_addWorker 35 = .ok (.goto (-23), 3) := by decide +kernel
theorem dX4_addWorker_38 : decode cX4_addWorker 38 = .ok (.aload_n 0, 1) := by decide +kernel
theorem dX4_addWorker_39 : decode cX4_addWorker 39 = .ok (.dup, 1) := by decide +kernel
theorem dX4_addWorker_40 : decode cX4_addWorker 40 = .ok (.getfield 20, 3) := by decide +kernel
theorem dX4_addWorker_43 : decode cX4_addWorker 43 = .ok (.iconst 1, 1) := by decide +kernel
theorem dX4_addWorker_44 : decode cX4_addWorker 44 = .ok (.iadd, 1) := by decide +kernel
theorem dX4_addWorker_45 : decode cX4_addWorker 45 = .ok (.putfield 20, 3) := by decide +kernel
theorem dX4_addWorker_48 : decode cX4_addWorker 48 = .ok (.return_, 1) := by decide +kernel
theorem dX4_addTask_0 : decode cX4_addTask 0 = .ok (.iconst 0, 1) := by decide +kernel
theorem dX4_addTask_1 : decode cX4_addTask 1 = .ok (.istore_n 1, 1) := by decide +kernel
theorem dX4_addTask_2 : decode cX4_addTask 2 = .ok (.iload_n 1, 1) := by decide +kernel
theorem dX4_addTask_3 : decode cX4_addTask 3 = .ok (.aload_n 0, 1) := by decide +kernel
theorem dX4_addTask_4 : decode cX4_addTask 4 = .ok (.getfield 20, 3) := by decide +kernel
theorem dX4_addTask_7 : decode cX4_addTask 7 = .ok (.if_icmp .ge 21, 3) := by decide +kernel
theorem dX4_addTask_10 : decode cX4_addTask 10 = .ok (.aload_n 0, 1) := by decide +kernel
theorem dX4_addTask_11 : decode cX4_addTask 11 = .ok (.getfield 17, 3) := by decide +kernel
theorem dX4_addTask_14 : decode cX4_addTask 14 = .ok (.iload_n 1, 1) := by decide +kernel
theorem dX4_addTask_15 : decode cX4_addTask 15 = .ok (.aaload, 1) := by decide +kernel
theorem dX4_addTask_16 : decode cX4_addTask 16 = .ok (.aload_n 0, 1) := by decide +kernel
theorem dX4_addTask_17 : decode cX4_addTask 17 = .ok (.getfield 24, 3) := by decide +kernel
theorem dX4_addTask_20 : decode cX4_addTask 20 = .ok (.iconst (-1), 1) := by decide +kernel
theorem dX4_addTask_21 : decode cX4_addTask 21 = .ok (.iastore, 1) := by decide +kernel
theorem dX4_addTask_22 : decode cX4_addTask 22 = .ok (.iinc 1 1, 3) := by decide +kernel
theorem dX4_addTask_25 : decode cX4_addTask 25 = .ok (.goto (-23), 3) := by decide +kernel
theorem dX4_addTask_28 : decode cX4_addTask 28 = .ok (.aload_n 0, 1) := by decide +kernel
theorem dX4_addTask_29 : decode cX4_addTask 29 = .ok (.dup, 1) := by decide +kernel
theorem dX4_addTask_30 : decode cX4_addTask 30 = .ok (.getfield 24, 3) := by decide +kernel
theorem dX4_addTask_33 : decode cX4_addTask 33 = .ok (.iconst 1, 1) := by decide +kernel
theorem dX4_addTask_34 : decode cX4_addTask 34 = .ok (.iadd, 1) := by decide +kernel
theorem dX4_addTask_35 : decode cX4_addTask 35 = .ok (.putfield 24, 3) := by decide +kernel
theorem dX4_addTask_38 : decode cX4_addTask 38 = .ok (.return_, 1) := by decide +kernel
theorem dX4_removeWorker_0 : decode cX4_removeWorker 0 = .ok (.aload_n 0, 1) := by decide +kernel
theorem dX4_removeWorker_1 : decode cX4_removeWorker 1 = .ok (.dup, 1) := by decide +kernel
theorem dX4_removeWorker_2 : decode cX4_removeWorker 2 = .ok (.getfield 20, 3) := by decide +kernel
theorem dX4_removeWorker_5 : decode cX4_removeWorker 5 = .ok (.iconst 1, 1) := by decide +kernel
theorem dX4_removeWorker_6 : decode cX4_removeWorker 6 = .ok (.isub, 1) := by decide +kernel
theorem dX4_removeWorker_7 : decode cX4_removeWorker 7 = .ok (.putfield 20, 3) := by decide +kernel
theorem dX4_removeWorker_10 : decode cX4_removeWorker 10 = .ok (.iload_n 1, 1) := by decide +kernel
theorem dX4_removeWorker_11 : decode cX4_removeWorker 11 = .ok (.istore_n 2, 1) := by decide +kernel
theorem dX4_removeWorker_12 : decode cX4_removeWorker 12 = .ok (.iload_n 2, 1) := by decide +kernel
theorem dX4_removeWorker_13 : decode cX4_removeWorker 13 = .ok (.aload_n 0, 1) := by decide +kernel
theorem dX4_removeWorker_14 : decode cX4_removeWorker 14 = .ok (.getfield 20, 3) := by decide +kernel
theorem dX4_removeWorker_17 : decode cX4_removeWorker 17 = .ok (.if_icmp .ge 57, 3) := by decide +kernel
theorem dX4_removeWorker_20 : decode cX4_removeWorker 20 = .ok (.aload_n 0, 1) := by decide +kernel
theorem dX4_removeWorker_21 : decode cX4_removeWorker 21 = .ok (.getfield 9, 3) := by decide +kernel
theorem dX4_removeWorker_24 : decode cX4_removeWorker 24 = .ok (.iload_n 2, 1) := by decide +kernel
theorem dX4_removeWorker_25 : decode cX4_removeWorker 25 = .ok (.aload_n 0, 1) := by decide +kernel
theorem dX4_removeWorker_26 : decode cX4_removeWorker 26 = .ok (.getfield 9, 3) := by decide +kernel
theorem dX4_removeWorker_29 : decode cX4_removeWorker 29 = .ok (.iload_n 2, 1) := by decide +kernel
theorem dX4_removeWorker_30 : decode cX4_removeWorker 30 = .ok (.iconst 1, 1) := by decide +kernel
theorem dX4_removeWorker_31 : decode cX4_removeWorker 31 = .ok (.iadd, 1) := by decide +kernel
theorem dX4_removeWorker_32 : decode cX4_removeWorker 32 = .ok (.iaload, 1) := by decide +kernel
theorem dX4_removeWorker_33 : decode cX4_removeWorker 33 = .ok (.iastore, 1) := by decide +kernel
theorem dX4_removeWorker_34 : decode cX4_removeWorker 34 = .ok (.iconst 0, 1) := by decide +kernel
theorem dX4_removeWorker_35 : decode cX4_removeWorker 35 = .ok (.istore_n 3, 1) := by decide +kernel
theorem dX4_removeWorker_36 : decode cX4_removeWorker 36 = .ok (.iload_n 3, 1) := by decide +kernel
theorem dX4_removeWorker_37 : decode cX4_removeWorker 37 = .ok (.aload_n 0, 1) := by decide +kernel
theorem dX4_removeWorker_38 : decode cX4_removeWorker 38 = .ok (.getfield 24, 3) := by decide +kernel
theorem dX4_removeWorker_41 : decode cX4_removeWorker 41 = .ok (.if_icmp .ge 27, 3) := by decide +kernel
theorem dX4_removeWorker_44 : decode cX4_removeWorker 44 = .ok (.aload_n 0, 1) := by decide +kernel
theorem dX4_removeWorker_45 : decode cX4_removeWorker 45 = .ok (.getfield 17, 3) := by decide +kernel
theorem dX4_removeWorker_48 : decode cX4_removeWorker 48 = .ok (.iload_n 2, 1) := by decide +kernel
theorem dX4_removeWorker_49 : decode cX4_removeWorker 49 = .ok (.aaload, 1) := by decide +kernel
theorem dX4_removeWorker_50 : decode cX4_removeWorker 50 = .ok (.iload_n 3, 1) := by decide +kernel
theorem dX4_removeWorker_51 : decode cX4_removeWorker 51 = .ok (.aload_n 0, 1) := by decide +kernel
theorem dX4_removeWorker_52 : decode cX4_removeWorker 52 = .ok (.getfield 17, 3) := by decide +kernel
theorem dX4_removeWorker_55 : decode cX4_removeWorker 55 = .ok (.iload_n 2, 1) := by decide +kernel
theorem dX4_removeWorker_56 : decode cX4_removeWorker 56 = .ok (.iconst 1, 1) := by decide +kernel
theorem dX4_removeWorker_57 : decode cX4_removeWorker 57 = .ok (.iadd, 1) := by decide +kernel
theorem dX4_removeWorker_58 : decode cX4_removeWorker 58 = .ok (.aaload, 1) := by decide +kernel
theorem dX4_removeWorker_59 : decode cX4_removeWorker 59 = .ok (.iload_n 3, 1) := by decide +kernel
theorem dX4_removeWorker_60 : decode cX4_removeWorker 60 = .ok (.iaload, 1) := by decide +kernel
theorem dX4_removeWorker_61 : decode cX4_removeWorker 61 = .ok (.iastore, 1) := by decide +kernel
theorem dX4_removeWorker_62 : decode cX4_removeWorker 62 = .ok (.iinc 3 1, 3) := by decide +kernel
theorem dX4_removeWorker_65 : decode cX4_removeWorker 65 = .ok (.goto (-29), 3) := by decide +kernel
theorem dX4_removeWorker_68 : decode cX4_removeWorker 68 = .ok (.iinc 2 1, 3) := by decide +kernel
theorem dX4_removeWorker_71 : decode cX4_removeWorker 71 = .ok (.goto (-59), 3) := by decide +kernel
theorem dX4_removeWorker_74 : decode cX4_removeWorker 74 = .ok (.return_, 1) := by decide +kernel
theorem dX4_removeTask_0 : decode cX4_removeTask 0 = .ok (.aload_n 0, 1) := by decide +kernel
theorem dX4_removeTask_1 : decode cX4_removeTask 1 = .ok (.dup, 1) := by decide +kernel
theorem dX4_removeTask_2 : decode cX4_removeTask 2 = .ok (.getfield 24, 3) := by decide +kernel
theorem dX4_removeTask_5 : decode cX4_removeTask 5 = .ok (.iconst 1, 1) := by decide +kernel
theorem dX4_removeTask_6 : decode cX4_removeTask 6 = .ok (.isub, 1) := by decide +kernel
theorem dX4_removeTask_7 : decode cX4_removeTask 7 = .ok (.putfield 24, 3) := by decide +kernel
theorem dX4_removeTask_10 : decode cX4_removeTask 10 = .ok (.iconst 0, 1) := by decide +kernel
theorem dX4_removeTask_11 : decode cX4_removeTask 11 = .ok (.istore_n 2, 1) := by decide +kernel
theorem dX4_removeTask_12 : decode cX4_removeTask 12 = .ok (.iload_n 2, 1) := by decide +kernel
theorem dX4_removeTask_13 : decode cX4_removeTask 13 = .ok (.aload_n 0, 1) := by decide +kernel
theorem dX4_removeTask_14 : decode cX4_removeTask 14 = .ok (.getfield 20, 3) := by decide +kernel
theorem dX4_removeTask_17 : decode cX4_removeTask 17 = .ok (.if_icmp .ge 43, 3) := by decide +kernel
theorem dX4_removeTask_20 : decode cX4_removeTask 20 = .ok (.iload_n 1, 1) := by decide +kernel
theorem dX4_removeTask_21 : decode cX4_removeTask 21 = .ok (.istore_n 3, 1) := by decide +kernel
theorem dX4_removeTask_22 : decode cX4_removeTask 22 = .ok (.iload_n 3, 1) := by decide +kernel
theorem dX4_removeTask_23 : decode cX4_removeTask 23 = .ok (.aload_n 0, 1) := by decide +kernel
theorem dX4_removeTask_24 : decode cX4_removeTask 24 = .ok (.getfield 24, 3) := by decide +kernel
theorem dX4_removeTask_27 : decode cX4_removeTask 27 = .ok (.if_icmp .ge 27, 3) := by decide +kernel
theorem dX4_removeTask_30 : decode cX4_removeTask 30 = .ok (.aload_n 0, 1) := by decide +kernel
theorem dX4_removeTask_31 : decode cX4_removeTask 31 = .ok (.getfield 17, 3) := by decide +kernel
theorem dX4_removeTask_34 : decode cX4_removeTask 34 = .ok (.iload_n 2, 1) := by decide +kernel
theorem dX4_removeTask_35 : decode cX4_removeTask 35 = .ok (.aaload, 1) := by decide +kernel
theorem dX4_removeTask_36 : decode cX4_removeTask 36 = .ok (.iload_n 3, 1) := by decide +kernel
theorem dX4_removeTask_37 : decode cX4_removeTask 37 = .ok (.aload_n 0, 1) := by decide +kernel
theorem dX4_removeTask_38 : decode cX4_removeTask 38 = .ok (.getfield 17, 3) := by decide +kernel
theorem dX4_removeTask_41 : decode cX4_removeTask 41 = .ok (.iload_n 2, 1) := by decide +kernel
theorem dX4_removeTask_42 : decode cX4_removeTask 42 = .ok (.aaload, 1) := by decide +kernel
theorem dX4_removeTask_43 : decode cX4_removeTask 43 = .ok (.iload_n 3, 1) := by decide +kernel
theorem dX4_removeTask_44 : decode cX4_removeTask 44 = .ok (.iconst 1, 1) := by decide +kernel
theorem dX4_removeTask_45 : decode cX4_removeTask 45 = .ok (.iadd, 1) := by decide +kernel
theorem dX4_removeTask_46 : decode cX4_removeTask 46 = .ok (.iaload, 1) := by decide +kernel
theorem dX4_removeTask_47 : decode cX4_removeTask 47 = .ok (.iastore, 1) := by decide +kernel
theorem dX4_removeTask_48 : decode cX4_removeTask 48 = .ok (.iinc 3 1, 3) := by decide +kernel
theorem dX4_removeTask_51 : decode cX4_removeTask 51 = .ok (.goto (-29), 3) := by decide +kernel
theorem dX4_removeTask_54 : decode cX4_removeTask 54 = .ok (.iinc 2 1, 3) := by decide +kernel
theorem dX4_removeTask_57 : decode cX4_removeTask 57 = .ok (.goto (-45), 3) := by decide +kernel
theorem dX4_removeTask_60 : decode cX4_removeTask 60 = .ok (.return_, 1) := by decide +kernel
theorem dX4_isBarred_0 : decode cX4_isBarred 0 = .ok (.iload_n 2, 1) := by decide +kernel
theorem dX4_isBarred_1 : decode cX4_isBarred 1 = .ok (.iconst (-1), 1) := by decide +kernel
theorem dX4_isBarred_2 : decode cX4_isBarred 2 = .ok (.if_icmp .eq 19, 3) := by decide +kernel
theorem dX4_isBarred_5 : decode cX4_isBarred 5 = .ok (.aload_n 0, 1) := by decide +kernel
theorem dX4_isBarred_6 : decode cX4_isBarred 6 = .ok (.getfield 17, 3) := by decide +kernel
theorem dX4_isBarred_9 : decode cX4_isBarred 9 = .ok (.iload_n 1, 1) := by decide +kernel
theorem dX4_isBarred_10 : decode cX4_isBarred 10 = .ok (.aaload, 1) := by decide +kernel
theorem dX4_isBarred_11 : decode cX4_isBarred 11 = .ok (.iload_n 2, 1) := by decide +kernel
theorem dX4_isBarred_12 : decode cX4_isBarred 12 = .ok (.iaload, 1) := by decide +kernel
theorem dX4_isBarred_13 : decode cX4_isBarred 13 = .ok (.iconst (-1), 1) := by decide +kernel
theorem dX4_isBarred_14 : decode cX4_isBarred 14 = .ok (.if_icmp .ne 7, 3) := by decide +kernel
theorem dX4_isBarred_17 : decode cX4_isBarred 17 = .ok (.iconst 1, 1) := by decide +kernel
theorem dX4_isBarred_18 : decode cX4_isBarred 18 = .ok (.goto 4, 3) := by decide +kernel
theorem dX4_isBarred_21 : decode cX4_isBarred 21 = .ok (.iconst 0, 1) := by decide +kernel
theorem dX4_isBarred_22 : decode cX4_isBarred 22 = .ok (.ireturn, 1) := by decide +kernel
theorem dX4_costWith_0 : decode cX4_costWith 0 = .ok (.iload_n 2, 1) := by decide +kernel
theorem dX4_costWith_1 : decode cX4_costWith 1 = .ok (.iconst (-1), 1) := by decide +kernel
theorem dX4_costWith_2 : decode cX4_costWith 2 = .ok (.if_icmp .ne 12, 3) := by decide +kernel
theorem dX4_costWith_5 : decode cX4_costWith 5 = .ok (.aload_n 0, 1) := by decide +kernel
theorem dX4_costWith_6 : decode cX4_costWith 6 = .ok (.getfield 9, 3) := by decide +kernel
theorem dX4_costWith_9 : decode cX4_costWith 9 = .ok (.iload_n 1, 1) := by decide +kernel
theorem dX4_costWith_10 : decode cX4_costWith 10 = .ok (.iaload, 1) := by decide +kernel
theorem dX4_costWith_11 : decode cX4_costWith 11 = .ok (.goto 11, 3) := by decide +kernel
theorem dX4_costWith_14 : decode cX4_costWith 14 = .ok (.aload_n 0, 1) := by decide +kernel
theorem dX4_costWith_15 : decode cX4_costWith 15 = .ok (.getfield 17, 3) := by decide +kernel
theorem dX4_costWith_18 : decode cX4_costWith 18 = .ok (.iload_n 1, 1) := by decide +kernel
theorem dX4_costWith_19 : decode cX4_costWith 19 = .ok (.aaload, 1) := by decide +kernel
theorem dX4_costWith_20 : decode cX4_costWith 20 = .ok (.iload_n 2, 1) := by decide +kernel
theorem dX4_costWith_21 : decode cX4_costWith 21 = .ok (.iaload, 1) := by decide +kernel
theorem dX4_costWith_22 : decode cX4_costWith 22 = .ok (.ireturn, 1) := by decide +kernel
theorem dX4_greatestCost_0 : decode cX4_greatestCost 0 = .ok (.aload_n 0, 1) := by decide +kernel
theorem dX4_greatestCost_1 : decode cX4_greatestCost 1 = .ok (.getfield 9, 3) := by decide +kernel
theorem dX4_greatestCost_4 : decode cX4_greatestCost 4 = .ok (.iload_n 1, 1) := by decide +kernel
theorem dX4_greatestCost_5 : decode cX4_greatestCost 5 = .ok (.iaload, 1) := by decide +kernel
theorem dX4_greatestCost_6 : decode cX4_greatestCost 6 = .ok (.istore_n 2, 1) := by decide +kernel
theorem dX4_greatestCost_7 : decode cX4_greatestCost 7 = .ok (.iconst 0, 1) := by decide +kernel
theorem dX4_greatestCost_8 : decode cX4_greatestCost 8 = .ok (.istore_n 3, 1) := by decide +kernel
theorem dX4_greatestCost_9 : decode cX4_greatestCost 9 = .ok (.iload_n 3, 1) := by decide +kernel
theorem dX4_greatestCost_10 : decode cX4_greatestCost 10 = .ok (.aload_n 0, 1) := by decide +kernel
theorem dX4_greatestCost_11 : decode cX4_greatestCost 11 = .ok (.getfield 24, 3) := by decide +kernel
theorem dX4_greatestCost_14 : decode cX4_greatestCost 14 = .ok (.if_icmp .ge 22, 3) := by decide +kernel
theorem dX4_greatestCost_17 : decode cX4_greatestCost 17 = .ok (.iload_n 2, 1) := by decide +kernel
theorem dX4_greatestCost_18 : decode cX4_greatestCost 18 = .ok (.aload_n 0, 1) := by decide +kernel
theorem dX4_greatestCost_19 : decode cX4_greatestCost 19 = .ok (.getfield 17, 3) := by decide +kernel
theorem dX4_greatestCost_22 : decode cX4_greatestCost 22 = .ok (.iload_n 1, 1) := by decide +kernel
theorem dX4_greatestCost_23 : decode cX4_greatestCost 23 = .ok (.aaload, 1) := by decide +kernel
theorem dX4_greatestCost_24 : decode cX4_greatestCost 24 = .ok (.iload_n 3, 1) := by decide +kernel
theorem dX4_greatestCost_25 : decode cX4_greatestCost 25 = .ok (.iaload, 1) := by decide +kernel
theorem dX4_greatestCost_26 : decode cX4_greatestCost 26 = .ok (.invokestatic 27, 3) := by decide +kernel
theorem dX4_greatestCost_29 : decode cX4_greatestCost 29 = .ok (.istore_n 2, 1) := by decide +kernel
theorem dX4_greatestCost_30 : decode cX4_greatestCost 30 = .ok (.iinc 3 1, 3) := by decide +kernel
theorem dX4_greatestCost_33 : decode cX4_greatestCost 33 = .ok (.goto (-24), 3) := by decide +kernel
theorem dX4_greatestCost_36 : decode cX4_greatestCost 36 = .ok (.iload_n 2, 1) := by decide +kernel
theorem dX4_greatestCost_37 : decode cX4_greatestCost 37 = .ok (.ireturn, 1) := by decide +kernel
set_option maxRecDepth 20000 in
theorem ggX4_multiplyCosts_X4_isBarred : GoodIn wsX4_multiplyCosts wsX4_isBarred := goodIn_r _ [8, 3, 9, 10, 11, 12] (by decide +kernel) (by decide +kernel)
set_option maxRecDepth 20000 in
theorem gX4_multiplyCosts_X4_isBarred : GoodIn wsX4_multiplyCosts (wsV RX4 33 RX4 yX4_isBarred wsX4_isBarred) := goodIn_app (goodIn_of _ (by decide +kernel)) ggX4_multiplyCosts_X4_isBarred
theorem dX4_multiplyCosts_0 : decode cX4_multiplyCosts 0 = .ok (.aload_n 0, 1) := by decide +kernel
theorem dX4_multiplyCosts_1 : decode cX4_multiplyCosts 1 = .ok (.getfield 9, 3) := by decide +kernel
theorem dX4_multiplyCosts_4 : decode cX4_multiplyCosts 4 = .ok (.iload_n 1, 1) := by decide +kernel
theorem dX4_multiplyCosts_5 : decode cX4_multiplyCosts 5 = .ok (.dup2, 1) := by decide +kernel
theorem dX4_multiplyCosts_6 : decode cX4_multiplyCosts 6 = .ok (.iaload, 1) := by decide +kernel
theorem dX4_multiplyCosts_7 : decode cX4_multiplyCosts 7 = .ok (.iload_n 2, 1) := by decide +kernel
theorem dX4_multiplyCosts_8 : decode cX4_multiplyCosts 8 = .ok (.imul, 1) := by decide +kernel
theorem dX4_multiplyCosts_9 : decode cX4_multiplyCosts 9 = .ok (.iastore, 1) := by decide +kernel
theorem dX4_multiplyCosts_10 : decode cX4_multiplyCosts 10 = .ok (.iconst 0, 1) := by decide +kernel
theorem dX4_multiplyCosts_11 : decode cX4_multiplyCosts 11 = .ok (.istore_n 3, 1) := by decide +kernel
theorem dX4_multiplyCosts_12 : decode cX4_multiplyCosts 12 = .ok (.iload_n 3, 1) := by decide +kernel
theorem dX4_multiplyCosts_13 : decode cX4_multiplyCosts 13 = .ok (.aload_n 0, 1) := by decide +kernel
theorem dX4_multiplyCosts_14 : decode cX4_multiplyCosts 14 = .ok (.getfield 24, 3) := by decide +kernel
theorem dX4_multiplyCosts_17 : decode cX4_multiplyCosts 17 = .ok (.if_icmp .ge 30, 3) := by decide +kernel
theorem dX4_multiplyCosts_20 : decode cX4_multiplyCosts 20 = .ok (.aload_n 0, 1) := by decide +kernel
theorem dX4_multiplyCosts_21 : decode cX4_multiplyCosts 21 = .ok (.iload_n 1, 1) := by decide +kernel
theorem dX4_multiplyCosts_22 : decode cX4_multiplyCosts 22 = .ok (.iload_n 3, 1) := by decide +kernel
theorem dX4_multiplyCosts_23 : decode cX4_multiplyCosts 23 = .ok (.invokevirtual 33, 3) := by decide +kernel
theorem dX4_multiplyCosts_26 : decode cX4_multiplyCosts 26 = .ok (.ifCond .ne 15, 3) := by decide +kernel
theorem dX4_multiplyCosts_29 : decode cX4_multiplyCosts 29 = .ok (.aload_n 0, 1) := by decide +kernel
theorem dX4_multiplyCosts_30 : decode cX4_multiplyCosts 30 = .ok (.getfield 17, 3) := by decide +kernel
theorem dX4_multiplyCosts_33 : decode cX4_multiplyCosts 33 = .ok (.iload_n 1, 1) := by decide +kernel
theorem dX4_multiplyCosts_34 : decode cX4_multiplyCosts 34 = .ok (.aaload, 1) := by decide +kernel
theorem dX4_multiplyCosts_35 : decode cX4_multiplyCosts 35 = .ok (.iload_n 3, 1) := by decide +kernel
theorem dX4_multiplyCosts_36 : decode cX4_multiplyCosts 36 = .ok (.dup2, 1) := by decide +kernel
theorem dX4_multiplyCosts_37 : decode cX4_multiplyCosts 37 = .ok (.iaload, 1) := by decide +kernel
theorem dX4_multiplyCosts_38 : decode cX4_multiplyCosts 38 = .ok (.iload_n 2, 1) := by decide +kernel
theorem dX4_multiplyCosts_39 : decode cX4_multiplyCosts 39 = .ok (.imul, 1) := by decide +kernel
theorem dX4_multiplyCosts_40 : decode cX4_multiplyCosts 40 = .ok (.iastore, 1) := by decide +kernel
theorem dX4_multiplyCosts_41 : decode cX4_multiplyCosts 41 = .ok (.iinc 3 1, 3) := by decide +kernel
theorem dX4_multiplyCosts_44 : decode cX4_multiplyCosts 44 = .ok (.goto (-32), 3) := by decide +kernel
theorem dX4_multiplyCosts_47 : decode cX4_multiplyCosts 47 = .ok (.return_, 1) := by decide +kernel
set_option maxRecDepth 20000 in
theorem ggX4_openPairs_X4_isBarred : GoodIn wsX4_openPairs wsX4_isBarred := goodIn_r _ [7, 8, 9, 10, 11, 12] (by decide +kernel) (by decide +kernel)
set_option maxRecDepth 20000 in
theorem gX4_openPairs_X4_isBarred : GoodIn wsX4_openPairs (wsV RX4 33 RX4 yX4_isBarred wsX4_isBarred) := goodIn_app (goodIn_of _ (by decide +kernel)) ggX4_openPairs_X4_isBarred
theorem dX4_openPairs_0 : decode cX4_openPairs 0 = .ok (.iconst 0, 1) := by decide +kernel
theorem dX4_openPairs_1 : decode cX4_openPairs 1 = .ok (.istore_n 1, 1) := by decide +kernel
theorem dX4_openPairs_2 : decode cX4_openPairs 2 = .ok (.iconst 0, 1) := by decide +kernel
theorem dX4_openPairs_3 : decode cX4_openPairs 3 = .ok (.istore_n 2, 1) := by decide +kernel
theorem dX4_openPairs_4 : decode cX4_openPairs 4 = .ok (.iload_n 2, 1) := by decide +kernel
theorem dX4_openPairs_5 : decode cX4_openPairs 5 = .ok (.aload_n 0, 1) := by decide +kernel
theorem dX4_openPairs_6 : decode cX4_openPairs 6 = .ok (.getfield 20, 3) := by decide +kernel
theorem dX4_openPairs_9 : decode cX4_openPairs 9 = .ok (.if_icmp .ge 37, 3) := by decide +kernel
theorem dX4_openPairs_12 : decode cX4_openPairs 12 = .ok (.iconst 0, 1) := by decide +kernel
theorem dX4_openPairs_13 : decode cX4_openPairs 13 = .ok (.istore_n 3, 1) := by decide +kernel
theorem dX4_openPairs_14 : decode cX4_openPairs 14 = .ok (.iload_n 3, 1) := by decide +kernel
theorem dX4_openPairs_15 : decode cX4_openPairs 15 = .ok (.aload_n 0, 1) := by decide +kernel
theorem dX4_openPairs_16 : decode cX4_openPairs 16 = .ok (.getfield 24, 3) := by decide +kernel
theorem dX4_openPairs_19 : decode cX4_openPairs 19 = .ok (.if_icmp .ge 21, 3) := by decide +kernel
theorem dX4_openPairs_22 : decode cX4_openPairs 22 = .ok (.aload_n 0, 1) := by decide +kernel
theorem dX4_openPairs_23 : decode cX4_openPairs 23 = .ok (.iload_n 2, 1) := by decide +kernel
theorem dX4_openPairs_24 : decode cX4_openPairs 24 = .ok (.iload_n 3, 1) := by decide +kernel
theorem dX4_openPairs_25 : decode cX4_openPairs 25 = .ok (.invokevirtual 33, 3) := by decide +kernel
theorem dX4_openPairs_28 : decode cX4_openPairs 28 = .ok (.ifCond .ne 6, 3) := by decide +kernel
theorem dX4_openPairs_31 : decode cX4_openPairs 31 = .ok (.iinc 1 1, 3) := by decide +kernel
theorem dX4_openPairs_34 : decode cX4_openPairs 34 = .ok (.iinc 3 1, 3) := by decide +kernel
theorem dX4_openPairs_37 : decode cX4_openPairs 37 = .ok (.goto (-23), 3) := by decide +kernel
theorem dX4_openPairs_40 : decode cX4_openPairs 40 = .ok (.iinc 2 1, 3) := by decide +kernel
theorem dX4_openPairs_43 : decode cX4_openPairs 43 = .ok (.goto (-39), 3) := by decide +kernel
theorem dX4_openPairs_46 : decode cX4_openPairs 46 = .ok (.iload_n 1, 1) := by decide +kernel
theorem dX4_openPairs_47 : decode cX4_openPairs 47 = .ok (.ireturn, 1) := by decide +kernel
theorem dX4_allWorkers_0 : decode cX4_allWorkers 0 = .ok (.iconst 1, 1) := by decide +kernel
theorem dX4_allWorkers_1 : decode cX4_allWorkers 1 = .ok (.aload_n 0, 1) := by decide +kernel
theorem dX4_allWorkers_2 : decode cX4_allWorkers 2 = .ok (.getfield 20, 3) := by decide +kernel
theorem dX4_allWorkers_5 : decode cX4_allWorkers 5 = .ok (.ishl, 1) := by decide +kernel
theorem dX4_allWorkers_6 : decode cX4_allWorkers 6 = .ok (.iconst 1, 1) := by decide +kernel
theorem dX4_allWorkers_7 : decode cX4_allWorkers 7 = .ok (.isub, 1) := by decide +kernel
theorem dX4_allWorkers_8 : decode cX4_allWorkers 8 = .ok (.ireturn, 1) := by decide +kernel
set_option maxRecDepth 20000 in
theorem ggX4_allWorkersBut_X4_allWorkers : GoodIn wsX4_allWorkersBut wsX4_allWorkers := goodIn_r _ [5, 6, 7, 8, 9, 10] (by decide +kernel) (by decide +kernel)
set_option maxRecDepth 20000 in
theorem gX4_allWorkersBut_X4_allWorkers : GoodIn wsX4_allWorkersBut (wsV RX4 37 RX4 yX4_allWorkers wsX4_allWorkers) := goodIn_app (goodIn_of _ (by decide +kernel)) ggX4_allWorkersBut_X4_allWorkers
theorem dX4_allWorkersBut_0 : decode cX4_allWorkersBut 0 = .ok (.aload_n 0, 1) := by decide +kernel
theorem dX4_allWorkersBut_1 : decode cX4_allWorkersBut 1 = .ok (.invokevirtual 37, 3) := by decide +kernel
theorem dX4_allWorkersBut_4 : decode cX4_allWorkersBut 4 = .ok (.iconst 1, 1) := by decide +kernel
theorem dX4_allWorkersBut_5 : decode cX4_allWorkersBut 5 = .ok (.iload_n 1, 1) := by decide +kernel
theorem dX4_allWorkersBut_6 : decode cX4_allWorkersBut 6 = .ok (.ishl, 1) := by decide +kernel
theorem dX4_allWorkersBut_7 : decode cX4_allWorkersBut 7 = .ok (.iconst (-1), 1) := by decide +kernel
theorem dX4_allWorkersBut_8 : decode cX4_allWorkersBut 8 = .ok (.ixor, 1) := by decide +kernel
theorem dX4_allWorkersBut_9 : decode cX4_allWorkersBut 9 = .ok (.iand, 1) := by decide +kernel
theorem dX4_allWorkersBut_10 : decode cX4_allWorkersBut 10 = .ok (.ireturn, 1) := by decide +kernel
