theorem dX5_init_0 : decode cX5_init 0 = .ok (.aload_n 0, 1) := by decide +kernel
theorem dX5_init_1 : decode cX5_init 1 = .ok (.invokespecial 3, 3) := by decide +kernel
theorem dX5_init_4 : decode cX5_init 4 = .ok (.aload_n 0, 1) := by decide +kernel
theorem dX5_init_5 : decode cX5_init 5 = .ok (.bipush 80, 2) := by decide +kernel
theorem dX5_init_7 : decode cX5_init 7 = .ok (.newarray .char, 2) := by decide +kernel
theorem dX5_init_9 : decode cX5_init 9 = .ok (.putfield 9, 3) := by decide +kernel
theorem dX5_init_12 : decode cX5_init 12 = .ok (.return_, 1) := by decide +kernel
theorem dX5_append_0 : decode cX5_append 0 = .ok (.aload_n 0, 1) := by decide +kernel
theorem dX5_append_1 : decode cX5_append 1 = .ok (.getfield 9, 3) := by decide +kernel
theorem dX5_append_4 : decode cX5_append 4 = .ok (.aload_n 0, 1) := by decide +kernel
theorem dX5_append_5 : decode cX5_append 5 = .ok (.getfield 15, 3) := by decide +kernel
theorem dX5_append_8 : decode cX5_append 8 = .ok (.iload_n 1, 1) := by decide +kernel
theorem dX5_append_9 : decode cX5_append 9 = .ok (.castore, 1) := by decide +kernel
theorem dX5_append_10 : decode cX5_append 10 = .ok (.aload_n 0, 1) := by decide +kernel
theorem dX5_append_11 : decode cX5_append 11 = .ok (.dup, 1) := by decide +kernel
theorem dX5_append_12 : decode cX5_append 12 = .ok (.getfield 15, 3) := by decide +kernel
theorem dX5_append_15 : decode cX5_append 15 = .ok (.iconst 1, 1) := by decide +kernel
theorem dX5_append_16 : decode cX5_append 16 = .ok (.iadd, 1) := by decide +kernel
theorem dX5_append_17 : decode cX5_append 17 = .ok (.putfield 15, 3) := by decide +kernel
theorem dX5_append_20 : decode cX5_append 20 = .ok (.return_, 1) := by decide +kernel
theorem dX5_isAt_0 : decode cX5_isAt 0 = .ok (.iload_n 1, 1) := by decide +kernel
theorem dX5_isAt_1 : decode cX5_isAt 1 = .ok (.aload_n 0, 1) := by decide +kernel
theorem dX5_isAt_2 : decode cX5_isAt 2 = .ok (.getfield 15, 3) := by decide +kernel
theorem dX5_isAt_5 : decode cX5_isAt 5 = .ok (.if_icmp .ge 17, 3) := by decide +kernel
theorem dX5_isAt_8 : decode cX5_isAt 8 = .ok (.aload_n 0, 1) := by decide +kernel
theorem dX5_isAt_9 : decode cX5_isAt 9 = .ok (.getfield 9, 3) := by decide +kernel
theorem dX5_isAt_12 : decode cX5_isAt 12 = .ok (.iload_n 1, 1) := by decide +kernel
theorem dX5_isAt_13 : decode cX5_isAt 13 = .ok (.caload, 1) := by decide +kernel
theorem dX5_isAt_14 : decode cX5_isAt 14 = .ok (.iload_n 2, 1) := by decide +kernel
theorem dX5_isAt_15 : decode cX5_isAt 15 = .ok (.if_icmp .ne 7, 3) := by decide +kernel
theorem dX5_isAt_18 : decode cX5_isAt 18 = .ok (.iconst 1, 1) := by decide +kernel
theorem dX5_isAt_19 : decode cX5_isAt 19 = .ok (.goto 4, 3) := by decide +kernel
theorem dX5_isAt_22 : decode cX5_isAt 22 = .ok (.iconst 0, 1) := by decide +kernel
theorem dX5_isAt_23 : decode cX5_isAt 23 = .ok (.ireturn, 1) := by decide +kernel
theorem dX5_digitAt_0 : decode cX5_digitAt 0 = .ok (.iload_n 1, 1) := by decide +kernel
theorem dX5_digitAt_1 : decode cX5_digitAt 1 = .ok (.aload_n 0, 1) := by decide +kernel
theorem dX5_digitAt_2 : decode cX5_digitAt 2 = .ok (.getfield 15, 3) := by decide +kernel
theorem dX5_digitAt_5 : decode cX5_digitAt 5 = .ok (.if_icmp .ge 25, 3) := by decide +kernel
theorem dX5_digitAt_8 : decode cX5_digitAt 8 = .ok (.aload_n 0, 1) := by decide +kernel
theorem dX5_digitAt_9 : decode cX5_digitAt 9 = .ok (.getfield 9, 3) := by decide +kernel
theorem dX5_digitAt_12 : decode cX5_digitAt 12 = .ok (.iload_n 1, 1) := by decide +kernel
theorem dX5_digitAt_13 : decode cX5_digitAt 13 = .ok (.caload, 1) := by decide +kernel
theorem dX5_digitAt_14 : decode cX5_digitAt 14 = .ok (.bipush 48, 2) := by decide +kernel
theorem dX5_digitAt_16 : decode cX5_digitAt 16 = .ok (.if_icmp .lt 14, 3) := by decide +kernel
theorem dX5_digitAt_19 : decode cX5_digitAt 19 = .ok (.aload_n 0, 1) := by decide +kernel
theorem dX5_digitAt_20 : decode cX5_digitAt 20 = .ok (.getfield 9, 3) := by decide +kernel
theorem dX5_digitAt_23 : decode cX5_digitAt 23 = .ok (.iload_n 1, 1) := by decide +kernel
theorem dX5_digitAt_24 : decode cX5_digitAt 24 = .ok (.caload, 1) := by decide +kernel
theorem dX5_digitAt_25 : decode cX5_digitAt 25 = .ok (.bipush 57, 2) := by decide +kernel
theorem dX5_digitAt_27 : decode cX5_digitAt 27 = .ok (.if_icmp .le 5, 3) := by decide +kernel
theorem dX5_digitAt_30 : decode cX5_digitAt 30 = .ok (.iconst (-1), 1) := by decide +kernel
theorem dX5_digitAt_31 : decode cX5_digitAt 31 = .ok (.ireturn, 1) := by decide +kernel
theorem dX5_digitAt_32 : decode cX5_digitAt 32 = .ok (.aload_n 0, 1) := by decide +kernel
theorem dX5_digitAt_33 : decode cX5_digitAt 33 = .ok (.getfield 9, 3) := by decide +kernel
theorem dX5_digitAt_36 : decode cX5_digitAt 36 = .ok (.iload_n 1, 1) := by decide +kernel
theorem dX5_digitAt_37 : decode cX5_digitAt 37 = .ok (.caload, 1) := by decide +kernel
theorem dX5_digitAt_38 : decode cX5_digitAt 38 = .ok (.bipush 48, 2) := by decide +kernel
theorem dX5_digitAt_40 : decode cX5_digitAt 40 = .ok (.isub, 1) := by decide +kernel
theorem dX5_digitAt_41 : decode cX5_digitAt 41 = .ok (.ireturn, 1) := by decide +kernel
