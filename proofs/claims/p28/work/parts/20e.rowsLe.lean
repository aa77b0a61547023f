set_option maxRecDepth 20000 in
theorem ggL_isSo_X6_workerIs : GoodIn wsL_isSo wsX6_workerIs := goodIn_r _ [5, 6, 7, 8, 9, 10, 11, 12, 4, 13, 14, 15, 16, 17, 18, 19, 20, 21, 22, 23, 24, 25, 26, 27, 28, 29, 30, 31, 32, 33, 34, 35, 36, 37, 38, 39, 40, 41, 42, 43, 44, 45, 46, 47, 48, 49, 50, 51, 52, 53, 54, 55, 56, 57, 58, 59, 60, 61, 62, 63, 64, 65, 66, 67, 68, 69, 70, 71, 72, 73, 74, 75, 76, 77, 78, 79, 80, 81, 82, 83, 84, 85, 86, 87, 88, 89, 90, 91, 200, 201, 202, 203, 204, 205, 206, 207, 208, 209, 210, 211, 212, 213, 214, 215, 216] (by decide +kernel) (by decide +kernel)
set_option maxRecDepth 20000 in
theorem gL_isSo_X6_workerIs : GoodIn wsL_isSo (wsV RL 83 RX6 yX6_workerIs wsX6_workerIs) := goodIn_app (goodIn_of _ (by decide +kernel)) ggL_isSo_X6_workerIs
set_option maxRecDepth 20000 in
theorem ggL_isSo_X6_price : GoodIn wsL_isSo wsX6_price := goodIn_r _ [95, 8, 96, 97, 98, 99, 4, 100, 7, 101, 102, 103, 104, 62, 105, 67, 106, 107, 108, 18, 109, 20, 31, 21, 22, 23, 24, 25, 26, 32, 33, 34, 35, 36, 37, 38, 39, 40, 41, 42, 43, 44, 45, 46, 47, 48, 49, 50, 51, 52, 59, 60, 61, 63, 64, 65, 66, 68, 69, 70, 71, 72, 73, 16, 17, 19, 27, 28, 29, 30, 74, 54, 55, 56, 57, 75, 76, 77, 78, 79, 80, 200, 201, 202, 203, 204, 205, 214, 215, 216, 206, 207, 208, 209, 210, 211, 212, 213] (by decide +kernel) (by decide +kernel)
set_option maxRecDepth 20000 in
theorem gL_isSo_X6_price : GoodIn wsL_isSo (wsV RL 74 RX6 yX6_price wsX6_price) := goodIn_app (goodIn_of _ (by decide +kernel)) ggL_isSo_X6_price
set_option maxRecDepth 20000 in
theorem ggL_isSo_X6_costOf : GoodIn wsL_isSo wsX6_costOf := goodIn_r _ [113, 7, 10, 11, 12, 4, 13, 14, 114, 115, 116, 117, 97, 98, 99, 100, 101, 118, 77, 78, 24, 79, 80, 119, 120, 121, 122, 123, 200, 201, 202, 203, 204, 205, 206, 207, 208, 209] (by decide +kernel) (by decide +kernel)
set_option maxRecDepth 20000 in
theorem gL_isSo_X6_costOf : GoodIn wsL_isSo (wsV RL 89 RX6 yX6_costOf wsX6_costOf) := goodIn_app (goodIn_of _ (by decide +kernel)) ggL_isSo_X6_costOf
set_option maxRecDepth 20000 in
theorem gcisSo_isProved_h : GoodIn wsL_isSo [Cond.code yL_isProved cL_isProved 17 (some .boolean)] := goodIn_r _ [127] (by decide +kernel) (by decide +kernel)
set_option maxRecDepth 20000 in
theorem gcisSo_isProved_r1 : GoodIn wsL_isSo wsL_isProved_r1 := goodIn_r _ [128, 129, 130, 131, 4, 132, 6, 15, 16, 17, 18, 19, 20, 21, 22, 23, 24, 25, 26, 27, 28, 29, 30, 31] (by decide +kernel) (by decide +kernel)
set_option maxRecDepth 20000 in
theorem gcisSo_isProved_r2 : GoodIn wsL_isSo wsL_isProved_r2 := goodIn_r _ [32, 33, 34, 35, 36, 37, 38, 39, 40, 41, 42, 43, 44, 45, 46, 47, 48, 49, 50, 51, 52, 133, 134, 135] (by decide +kernel) (by decide +kernel)
set_option maxRecDepth 20000 in
theorem gcisSo_isProved_r3 : GoodIn wsL_isSo wsL_isProved_r3 := goodIn_r _ [136, 8, 59, 60, 61, 62, 63, 64, 65, 66, 67, 68, 69, 70, 71, 72, 73, 74, 54, 55, 56, 57, 75, 76] (by decide +kernel) (by decide +kernel)
set_option maxRecDepth 20000 in
theorem gcisSo_isProved_r4 : GoodIn wsL_isSo wsL_isProved_r4 := goodIn_r _ [77, 78, 79, 80, 137, 138, 139, 140, 91, 82, 83, 84, 85, 86, 141, 142, 143, 144, 92, 93, 94, 95, 96, 97] (by decide +kernel) (by decide +kernel)
set_option maxRecDepth 20000 in
theorem gcisSo_isProved_r5 : GoodIn wsL_isSo wsL_isProved_r5 := goodIn_r _ [98, 99, 100, 7, 101, 102, 103, 104, 105, 106, 107, 108, 109, 145, 146, 147, 148, 149, 10, 11, 12, 13, 14, 150] (by decide +kernel) (by decide +kernel)
set_option maxRecDepth 20000 in
theorem gcisSo_isProved_r6 : GoodIn wsL_isSo wsL_isProved_r6 := goodIn_r _ [151, 152, 153, 154, 155, 156, 157, 158, 159, 160, 161, 162, 163, 164, 1, 2, 3, 5, 9, 53, 58, 81, 87, 88] (by decide +kernel) (by decide +kernel)
set_option maxRecDepth 20000 in
theorem gcisSo_isProved_r7 : GoodIn wsL_isSo wsL_isProved_r7 := goodIn_r _ [89, 90, 165, 166, 167, 168, 169, 170, 171, 172, 173, 174, 175, 176, 177, 178, 179, 180, 181, 182, 183, 184, 185, 186] (by decide +kernel) (by decide +kernel)
set_option maxRecDepth 20000 in
theorem gcisSo_isProved_r8 : GoodIn wsL_isSo wsL_isProved_r8 := goodIn_r _ [187, 188, 189, 190, 191, 192, 193, 194, 195, 196, 197, 198, 199] (by decide +kernel) (by decide +kernel)
set_option maxRecDepth 20000 in
theorem gcisSo_isProved_X6 : GoodIn wsL_isSo wsX60 := goodIn_r _ [200, 201, 202, 203, 204, 205] (by decide +kernel) (by decide +kernel)
set_option maxRecDepth 20000 in
theorem gcisSo_isProved_X1 : GoodIn wsL_isSo wsX10 := goodIn_r _ [210, 211, 212, 213] (by decide +kernel) (by decide +kernel)
set_option maxRecDepth 20000 in
theorem gcisSo_isProved_X4 : GoodIn wsL_isSo wsX40 := goodIn_r _ [206, 207, 208, 209] (by decide +kernel) (by decide +kernel)
set_option maxRecDepth 20000 in
theorem gcisSo_isProved_X2 : GoodIn wsL_isSo wsX20 := goodIn_r _ [214, 215, 216] (by decide +kernel) (by decide +kernel)
set_option maxRecDepth 20000 in
theorem gcisSo_isProved_X0 : GoodIn wsL_isSo wsX00 := goodIn_r _ [217, 218] (by decide +kernel) (by decide +kernel)
set_option maxRecDepth 20000 in
theorem gcisSo_isProved_X5 : GoodIn wsL_isSo wsX50 := goodIn_r _ [219, 220] (by decide +kernel) (by decide +kernel)
theorem ggL_isSo_L_isProved : GoodIn wsL_isSo wsL_isProved := goodIn_app (a := [Cond.code yL_isProved cL_isProved 17 (some .boolean)]) gcisSo_isProved_h (goodIn_app (goodIn_app (goodIn_app (goodIn_app (goodIn_app (goodIn_app (goodIn_app gcisSo_isProved_r1 (goodIn_app gcisSo_isProved_r2 (goodIn_app gcisSo_isProved_r3 (goodIn_app gcisSo_isProved_r4 (goodIn_app gcisSo_isProved_r5 (goodIn_app gcisSo_isProved_r6 (goodIn_app gcisSo_isProved_r7 (gcisSo_isProved_r8)))))))) gcisSo_isProved_X6) gcisSo_isProved_X1) gcisSo_isProved_X4) gcisSo_isProved_X2) gcisSo_isProved_X0) gcisSo_isProved_X5)
set_option maxRecDepth 20000 in
theorem gL_isSo_L_isProved : GoodIn wsL_isSo (va_wsS RL 92 yL_isProved wsL_isProved) := goodIn_app (goodIn_of _ (by decide +kernel)) ggL_isSo_L_isProved
set_option maxRecDepth 20000 in
theorem ggL_isSo_X6_count : GoodIn wsL_isSo wsX6_count := goodIn_r _ [168, 7, 14, 101, 6, 8, 169, 170, 171, 172, 173, 174, 175, 24, 176, 26, 177, 178, 77, 78, 79, 80, 150, 151, 152, 18, 153, 154, 20, 37, 155, 156, 16, 17, 19, 21, 22, 23, 25, 27, 28, 29, 30, 31, 32, 33, 34, 35, 36, 38, 39, 40, 41, 42, 43, 44, 45, 46, 47, 48, 49, 50, 51, 52, 157, 158, 159, 160, 179, 180, 181, 182, 59, 60, 61, 62, 63, 64, 65, 66, 67, 68, 69, 70, 71, 72, 73, 74, 54, 55, 56, 57, 75, 76, 183, 184, 185, 186, 187, 88, 89, 90, 91, 82, 83, 84, 85, 86, 188, 189, 190, 191, 192, 193, 194, 141, 142, 143, 144, 195, 196, 197, 198, 199, 103, 104, 105, 106, 107, 108, 109, 200, 201, 202, 203, 204, 205, 206, 207, 208, 209, 217, 218, 219, 220, 210, 211, 212, 213, 214, 215, 216] (by decide +kernel) (by decide +kernel)
set_option maxRecDepth 20000 in
theorem gL_isSo_X6_count : GoodIn wsL_isSo (wsV RL 86 RX6 yX6_count wsX6_count) := goodIn_app (goodIn_of _ (by decide +kernel)) ggL_isSo_X6_count
set_option maxRecDepth 20000 in
theorem ggL_isSo_X6_taskOf : GoodIn wsL_isSo wsX6_taskOf := goodIn_r _ [148, 6, 149, 10, 11, 12, 4, 13, 7, 14, 150, 151, 152, 18, 153, 154, 20, 37, 155, 156, 16, 17, 19, 21, 22, 23, 24, 25, 26, 27, 28, 29, 30, 31, 32, 33, 34, 35, 36, 38, 39, 40, 41, 42, 43, 44, 45, 46, 47, 48, 49, 50, 51, 52, 157, 158, 159, 160, 200, 201, 202, 203, 204, 205, 210, 211, 212, 213, 206, 207, 208, 209] (by decide +kernel) (by decide +kernel)
set_option maxRecDepth 20000 in
theorem gL_isSo_X6_taskOf : GoodIn wsL_isSo (wsV RL 77 RX6 yX6_taskOf wsX6_taskOf) := goodIn_app (goodIn_of _ (by decide +kernel)) ggL_isSo_X6_taskOf
set_option maxRecDepth 20000 in
theorem ggL_isSo_X6_workerOf : GoodIn wsL_isSo wsX6_workerOf := goodIn_r _ [164, 6, 7, 14, 149, 97, 98, 99, 4, 100, 101, 150, 151, 152, 18, 153, 154, 20, 37, 155, 156, 16, 17, 19, 21, 22, 23, 24, 25, 26, 27, 28, 29, 30, 31, 32, 33, 34, 35, 36, 38, 39, 40, 41, 42, 43, 44, 45, 46, 47, 48, 49, 50, 51, 52, 157, 158, 159, 160, 200, 201, 202, 203, 204, 205, 206, 207, 208, 209, 210, 211, 212, 213] (by decide +kernel) (by decide +kernel)
set_option maxRecDepth 20000 in
theorem gL_isSo_X6_workerOf : GoodIn wsL_isSo (wsV RL 80 RX6 yX6_workerOf wsX6_workerOf) := goodIn_app (goodIn_of _ (by decide +kernel)) ggL_isSo_X6_workerOf
theorem dL_isSo_0 : decode cL_isSo 0 = .ok (.iconst 1, 1) := by decide +kernel
theorem dL_isSo_1 : decode cL_isSo 1 = .ok (.istore 4, 2) := by decide +kernel
theorem dL_isSo_3 : decode cL_isSo 3 = .ok (.iconst 0, 1) := by decide +kernel
theorem dL_isSo_4 : decode cL_isSo 4 = .ok (.istore 5, 2) := by decide +kernel
theorem dL_isSo_6 : decode cL_isSo 6 = .ok (.iconst 0, 1) := by decide +kernel
theorem dL_isSo_7 : decode cL_isSo 7 = .ok (.istore 6, 2) := by decide +kernel
theorem dL_isSo_9 : decode cL_isSo 9 = .ok (.iconst 0, 1) := by decide +kernel
theorem dL_isSo_10 : decode cL_isSo 10 = .ok (.istore 7, 2) := by decide +kernel
theorem dL_isSo_12 : decode cL_isSo 12 = .ok (.iload 7, 2) := by decide +kernel
theorem dL_isSo_14 : decode cL_isSo 14 = .ok (.aload_n 1, 1) := by decide +kernel
theorem dL_isSo_15 : decode cL_isSo 15 = .ok (.iconst 0, 1) := by decide +kernel
theorem dL_isSo_16 : decode cL_isSo 16 = .ok (.iaload, 1) := by decide +kernel
theorem dL_isSo_17 : decode cL_isSo 17 = .ok (.if_icmp .ge 213, 3) := by decide +kernel
theorem dL_isSo_20 : decode cL_isSo 20 = .ok (.iload 4, 2) := by decide +kernel
theorem dL_isSo_22 : decode cL_isSo 22 = .ok (.ifCond .eq 208, 3) := by decide +kernel
theorem dL_isSo_25 : decode cL_isSo 25 = .ok (.iconst 0, 1) := by decide +kernel
theorem dL_isSo_26 : decode cL_isSo 26 = .ok (.istore 8, 2) := by decide +kernel
theorem dL_isSo_28 : decode cL_isSo 28 = .ok (.aload_n 0, 1) := by decide +kernel
theorem dL_isSo_29 : decode cL_isSo 29 = .ok (.iload 7, 2) := by decide +kernel
theorem dL_isSo_31 : decode cL_isSo 31 = .ok (.iconst 0, 1) := by decide +kernel
theorem dL_isSo_32 : decode cL_isSo 32 = .ok (.invokevirtual 83, 3) := by decide +kernel
theorem dL_isSo_35 : decode cL_isSo 35 = .ok (.istore 9, 2) := by decide +kernel
theorem dL_isSo_37 : decode cL_isSo 37 = .ok (.iconst 0, 1) := by decide +kernel
theorem dL_isSo_38 : decode cL_isSo 38 = .ok (.istore 10, 2) := by decide +kernel
theorem dL_isSo_40 : decode cL_isSo 40 = .ok (.iload 10, 2) := by decide +kernel
theorem dL_isSo_42 : decode cL_isSo 42 = .ok (.aload_n 1, 1) := by decide +kernel
theorem dL_isSo_43 : decode cL_isSo 43 = .ok (.iconst 1, 1) := by decide +kernel
theorem dL_isSo_44 : decode cL_isSo 44 = .ok (.iaload, 1) := by decide +kernel
theorem dL_isSo_45 : decode cL_isSo 45 = .ok (.if_icmp .ge 116, 3) := by decide +kernel
theorem dL_isSo_48 : decode cL_isSo 48 = .ok (.aload_n 2, 1) := by decide +kernel
theorem dL_isSo_49 : decode cL_isSo 49 = .ok (.bipush 7, 2) := by decide +kernel
theorem dL_isSo_51 : decode cL_isSo 51 = .ok (.iload 7, 2) := by decide +kernel
theorem dL_isSo_53 : decode cL_isSo 53 = .ok (.imul, 1) := by decide +kernel
theorem dL_isSo_54 : decode cL_isSo 54 = .ok (.iload 10, 2) := by decide +kernel
theorem dL_isSo_56 : decode cL_isSo 56 = .ok (.iadd, 1) := by decide +kernel
theorem dL_isSo_57 : decode cL_isSo 57 = .ok (.iaload, 1) := by decide +kernel
theorem dL_isSo_58 : decode cL_isSo 58 = .ok (.istore 11, 2) := by decide +kernel
theorem dL_isSo_60 : decode cL_isSo 60 = .ok (.iload 5, 2) := by decide +kernel
theorem dL_isSo_62 : decode cL_isSo 62 = .ok (.iload 11, 2) := by decide +kernel
theorem dL_isSo_64 : decode cL_isSo 64 = .ok (.ifCond .ge 7, 3) := by decide +kernel
theorem dL_isSo_67 : decode cL_isSo 67 = .ok (.iconst 0, 1) := by decide +kernel
theorem dL_isSo_68 : decode cL_isSo 68 = .ok (.goto 4, 3) := by decide +kernel
theorem dL_isSo_71 : decode cL_isSo 71 = .ok (.iconst 1, 1) := by decide +kernel
theorem dL_isSo_72 : decode cL_isSo 72 = .ok (.iadd, 1) := by decide +kernel
theorem dL_isSo_73 : decode cL_isSo 73 = .ok (.istore 5, 2) := by decide +kernel
theorem dL_isSo_75 : decode cL_isSo 75 = .ok (.iload 8, 2) := by decide +kernel
theorem dL_isSo_77 : decode cL_isSo 77 = .ok (.iload 11, 2) := by decide +kernel
theorem dL_isSo_79 : decode cL_isSo 79 = .ok (.ifCond .lt 25, 3) := by decide +kernel
theorem dL_isSo_82 : decode cL_isSo 82 = .ok (.iload 11, 2) := by decide +kernel
theorem dL_isSo_84 : decode cL_isSo 84 = .ok (.aload_n 0, 1) := by decide +kernel
theorem dL_isSo_85 : decode cL_isSo 85 = .ok (.iload 10, 2) := by decide +kernel
theorem dL_isSo_87 : decode cL_isSo 87 = .ok (.iconst 0, 1) := by decide +kernel
theorem dL_isSo_88 : decode cL_isSo 88 = .ok (.invokevirtual 74, 3) := by decide +kernel
theorem dL_isSo_91 : decode cL_isSo 91 = .ok (.iadd, 1) := by decide +kernel
theorem dL_isSo_92 : decode cL_isSo 92 = .ok (.iload 9, 2) := by decide +kernel
theorem dL_isSo_94 : decode cL_isSo 94 = .ok (.if_icmp .ne 10, 3) := by decide +kernel
theorem dL_isSo_97 : decode cL_isSo 97 = .ok (.iconst 1, 1) := by decide +kernel
theorem dL_isSo_98 : decode cL_isSo 98 = .ok (.iload 10, 2) := by decide +kernel
theorem dL_isSo_100 : decode cL_isSo 100 = .ok (.ishl, 1) := by decide +kernel
theorem dL_isSo_101 : decode cL_isSo 101 = .ok (.goto 4, 3) := by decide +kernel
theorem dL_isSo_104 : decode cL_isSo 104 = .ok (.iconst 0, 1) := by decide +kernel
theorem dL_isSo_105 : decode cL_isSo 105 = .ok (.ior, 1) := by decide +kernel
theorem dL_isSo_106 : decode cL_isSo 106 = .ok (.istore 8, 2) := by decide +kernel
theorem dL_isSo_108 : decode cL_isSo 108 = .ok (.iload 6, 2) := by decide +kernel
theorem dL_isSo_110 : decode cL_isSo 110 = .ok (.iload 8, 2) := by decide +kernel
theorem dL_isSo_112 : decode cL_isSo 112 = .ok (.iload 10, 2) := by decide +kernel
theorem dL_isSo_114 : decode cL_isSo 114 = .ok (.ishr, 1) := by decide +kernel
theorem dL_isSo_115 : decode cL_isSo 115 = .ok (.iconst 1, 1) := by decide +kernel
theorem dL_isSo_116 : decode cL_isSo 116 = .ok (.iand, 1) := by decide +kernel
theorem dL_isSo_117 : decode cL_isSo 117 = .ok (.iadd, 1) := by decide +kernel
theorem dL_isSo_118 : decode cL_isSo 118 = .ok (.istore 6, 2) := by decide +kernel
theorem dL_isSo_120 : decode cL_isSo 120 = .ok (.iload 4, 2) := by decide +kernel
theorem dL_isSo_122 : decode cL_isSo 122 = .ok (.ifCond .eq 30, 3) := by decide +kernel
theorem dL_isSo_125 : decode cL_isSo 125 = .ok (.aload_n 0, 1) := by decide +kernel
theorem dL_isSo_126 : decode cL_isSo 126 = .ok (.iload 7, 2) := by decide +kernel
theorem dL_isSo_128 : decode cL_isSo 128 = .ok (.iload 10, 2) := by decide +kernel
theorem dL_isSo_130 : decode cL_isSo 130 = .ok (.invokevirtual 89, 3) := by decide +kernel
theorem dL_isSo_133 : decode cL_isSo 133 = .ok (.iload 11, 2) := by decide +kernel
theorem dL_isSo_135 : decode cL_isSo 135 = .ok (.ifCond .ge 8, 3) := by decide +kernel
theorem dL_isSo_138 : decode cL_isSo 138 = .ok (.bipush (-4), 2) := by decide +kernel
theorem dL_isSo_140 : decode cL_isSo 140 = .ok (.goto 5, 3) := by decide +kernel
theorem dL_isSo_143 : decode cL_isSo 143 = .ok (.iload 11, 2) := by decide +kernel
theorem dL_isSo_145 : decode cL_isSo 145 = .ok (.if_icmp .ne 7, 3) := by decide +kernel
theorem dL_isSo_148 : decode cL_isSo 148 = .ok (.iconst 1, 1) := by decide +kernel
theorem dL_isSo_149 : decode cL_isSo 149 = .ok (.goto 4, 3) := by decide +kernel
theorem dL_isSo_152 : decode cL_isSo 152 = .ok (.iconst 0, 1) := by decide +kernel
theorem dL_isSo_153 : decode cL_isSo 153 = .ok (.istore 4, 2) := by decide +kernel
theorem dL_isSo_155 : decode cL_isSo 155 = .ok (.iinc 10 1, 3) := by decide +kernel
theorem dL_isSo_158 : decode cL_isSo 158 = .ok (.goto (-118), 3) := by decide +kernel
theorem dL_isSo_161 : decode cL_isSo 161 = .ok (.iload 4, 2) := by decide +kernel
theorem dL_isSo_163 : decode cL_isSo 163 = .ok (.ifCond .eq 58, 3) := by decide +kernel
theorem dL_isSo_166 : decode cL_isSo 166 = .ok (.aload_n 0, 1) := by decide +kernel
theorem dL_isSo_167 : decode cL_isSo 167 = .ok (.iload 7, 2) := by decide +kernel
theorem dL_isSo_169 : decode cL_isSo 169 = .ok (.iconst (-1), 1) := by decide +kernel
theorem dL_isSo_170 : decode cL_isSo 170 = .ok (.invokevirtual 89, 3) := by decide +kernel
theorem dL_isSo_173 : decode cL_isSo 173 = .ok (.aload_n 3, 1) := by decide +kernel
theorem dL_isSo_174 : decode cL_isSo 174 = .ok (.iload 7, 2) := by decide +kernel
theorem dL_isSo_176 : decode cL_isSo 176 = .ok (.iaload, 1) := by decide +kernel
theorem dL_isSo_177 : decode cL_isSo 177 = .ok (.if_icmp .ne 44, 3) := by decide +kernel
theorem dL_isSo_180 : decode cL_isSo 180 = .ok (.aload_n 0, 1) := by decide +kernel
theorem dL_isSo_181 : decode cL_isSo 181 = .ok (.iload 7, 2) := by decide +kernel
theorem dL_isSo_183 : decode cL_isSo 183 = .ok (.aload_n 1, 1) := by decide +kernel
theorem dL_isSo_184 : decode cL_isSo 184 = .ok (.iconst 1, 1) := by decide +kernel
theorem dL_isSo_185 : decode cL_isSo 185 = .ok (.iaload, 1) := by decide +kernel
theorem dL_isSo_186 : decode cL_isSo 186 = .ok (.invokevirtual 89, 3) := by decide +kernel
theorem dL_isSo_189 : decode cL_isSo 189 = .ok (.iconst (-1), 1) := by decide +kernel
theorem dL_isSo_190 : decode cL_isSo 190 = .ok (.if_icmp .ne 31, 3) := by decide +kernel
theorem dL_isSo_193 : decode cL_isSo 193 = .ok (.aload_n 0, 1) := by decide +kernel
theorem dL_isSo_194 : decode cL_isSo 194 = .ok (.iload 7, 2) := by decide +kernel
theorem dL_isSo_196 : decode cL_isSo 196 = .ok (.bipush (-2), 2) := by decide +kernel
theorem dL_isSo_198 : decode cL_isSo 198 = .ok (.invokevirtual 89, 3) := by decide +kernel
theorem dL_isSo_201 : decode cL_isSo 201 = .ok (.iconst (-1), 1) := by decide +kernel
theorem dL_isSo_202 : decode cL_isSo 202 = .ok (.if_icmp .ne 19, 3) := by decide +kernel
theorem dL_isSo_205 : decode cL_isSo 205 = .ok (.aload_n 0, 1) := by decide +kernel
theorem dL_isSo_206 : decode cL_isSo 206 = .ok (.iload 7, 2) := by decide +kernel
theorem dL_isSo_208 : decode cL_isSo 208 = .ok (.iconst 1, 1) := by decide +kernel
theorem dL_isSo_209 : decode cL_isSo 209 = .ok (.invokevirtual 83, 3) := by decide +kernel
theorem dL_isSo_212 : decode cL_isSo 212 = .ok (.iload 8, 2) := by decide +kernel
theorem dL_isSo_214 : decode cL_isSo 214 = .ok (.if_icmp .ne 7, 3) := by decide +kernel
theorem dL_isSo_217 : decode cL_isSo 217 = .ok (.iconst 1, 1) := by decide +kernel
theorem dL_isSo_218 : decode cL_isSo 218 = .ok (.goto 4, 3) := by decide +kernel
theorem dL_isSo_221 : decode cL_isSo 221 = .ok (.iconst 0, 1) := by decide +kernel
theorem dL_isSo_222 : decode cL_isSo 222 = .ok (.istore 4, 2) := by decide +kernel
theorem dL_isSo_224 : decode cL_isSo 224 = .ok (.iinc 7 1, 3) := by decide +kernel
theorem dL_isSo_227 : decode cL_isSo 227 = .ok (.goto (-215), 3) := by decide +kernel
theorem dL_isSo_230 : decode cL_isSo 230 = .ok (.iload 4, 2) := by decide +kernel
theorem dL_isSo_232 : decode cL_isSo 232 = .ok (.ifCond .eq 102, 3) := by decide +kernel
theorem dL_isSo_235 : decode cL_isSo 235 = .ok (.aload_n 0, 1) := by decide +kernel
theorem dL_isSo_236 : decode cL_isSo 236 = .ok (.aload_n 1, 1) := by decide +kernel
theorem dL_isSo_237 : decode cL_isSo 237 = .ok (.aload_n 2, 1) := by decide +kernel
theorem dL_isSo_238 : decode cL_isSo 238 = .ok (.aload_n 3, 1) := by decide +kernel
theorem dL_isSo_239 : decode cL_isSo 239 = .ok (.invokestatic 92, 3) := by decide +kernel
theorem dL_isSo_242 : decode cL_isSo 242 = .ok (.ifCond .eq 92, 3) := by decide +kernel
theorem dL_isSo_245 : decode cL_isSo 245 = .ok (.aload_n 0, 1) := by decide +kernel
theorem dL_isSo_246 : decode cL_isSo 246 = .ok (.iconst 0, 1) := by decide +kernel
theorem dL_isSo_247 : decode cL_isSo 247 = .ok (.invokevirtual 86, 3) := by decide +kernel
theorem dL_isSo_250 : decode cL_isSo 250 = .ok (.aload_n 1, 1) := by decide +kernel
theorem dL_isSo_251 : decode cL_isSo 251 = .ok (.iconst 0, 1) := by decide +kernel
theorem dL_isSo_252 : decode cL_isSo 252 = .ok (.iaload, 1) := by decide +kernel
theorem dL_isSo_253 : decode cL_isSo 253 = .ok (.if_icmp .ne 81, 3) := by decide +kernel
theorem dL_isSo_256 : decode cL_isSo 256 = .ok (.aload_n 0, 1) := by decide +kernel
theorem dL_isSo_257 : decode cL_isSo 257 = .ok (.iconst 1, 1) := by decide +kernel
theorem dL_isSo_258 : decode cL_isSo 258 = .ok (.invokevirtual 86, 3) := by decide +kernel
theorem dL_isSo_261 : decode cL_isSo 261 = .ok (.aload_n 1, 1) := by decide +kernel
theorem dL_isSo_262 : decode cL_isSo 262 = .ok (.iconst 1, 1) := by decide +kernel
theorem dL_isSo_263 : decode cL_isSo 263 = .ok (.iaload, 1) := by decide +kernel
theorem dL_isSo_264 : decode cL_isSo 264 = .ok (.if_icmp .ne 70, 3) := by decide +kernel
theorem dL_isSo_267 : decode cL_isSo 267 = .ok (.aload_n 0, 1) := by decide +kernel
theorem dL_isSo_268 : decode cL_isSo 268 = .ok (.iconst 2, 1) := by decide +kernel
theorem dL_isSo_269 : decode cL_isSo 269 = .ok (.invokevirtual 86, 3) := by decide +kernel
theorem dL_isSo_272 : decode cL_isSo 272 = .ok (.iload 5, 2) := by decide +kernel
theorem dL_isSo_274 : decode cL_isSo 274 = .ok (.if_icmp .ne 60, 3) := by decide +kernel
theorem dL_isSo_277 : decode cL_isSo 277 = .ok (.aload_n 0, 1) := by decide +kernel
theorem dL_isSo_278 : decode cL_isSo 278 = .ok (.iconst 4, 1) := by decide +kernel
theorem dL_isSo_279 : decode cL_isSo 279 = .ok (.invokevirtual 86, 3) := by decide +kernel
theorem dL_isSo_282 : decode cL_isSo 282 = .ok (.iload 6, 2) := by decide +kernel
theorem dL_isSo_284 : decode cL_isSo 284 = .ok (.if_icmp .ne 50, 3) := by decide +kernel
theorem dL_isSo_287 : decode cL_isSo 287 = .ok (.aload_n 0, 1) := by decide +kernel
theorem dL_isSo_288 : decode cL_isSo 288 = .ok (.bipush 8, 2) := by decide +kernel
theorem dL_isSo_290 : decode cL_isSo 290 = .ok (.invokevirtual 86, 3) := by decide +kernel
theorem dL_isSo_293 : decode cL_isSo 293 = .ok (.ifCond .ne 41, 3) := by decide +kernel
theorem dL_isSo_296 : decode cL_isSo 296 = .ok (.aload_n 0, 1) := by decide +kernel
theorem dL_isSo_297 : decode cL_isSo 297 = .ok (.aload_n 1, 1) := by decide +kernel
theorem dL_isSo_298 : decode cL_isSo 298 = .ok (.iconst 0, 1) := by decide +kernel
theorem dL_isSo_299 : decode cL_isSo 299 = .ok (.iaload, 1) := by decide +kernel
theorem dL_isSo_300 : decode cL_isSo 300 = .ok (.iconst (-1), 1) := by decide +kernel
theorem dL_isSo_301 : decode cL_isSo 301 = .ok (.invokevirtual 89, 3) := by decide +kernel
theorem dL_isSo_304 : decode cL_isSo 304 = .ok (.iconst (-1), 1) := by decide +kernel
theorem dL_isSo_305 : decode cL_isSo 305 = .ok (.if_icmp .ne 29, 3) := by decide +kernel
theorem dL_isSo_308 : decode cL_isSo 308 = .ok (.aload_n 0, 1) := by decide +kernel
theorem dL_isSo_309 : decode cL_isSo 309 = .ok (.aload_n 1, 1) := by decide +kernel
theorem dL_isSo_310 : decode cL_isSo 310 = .ok (.iconst 0, 1) := by decide +kernel
theorem dL_isSo_311 : decode cL_isSo 311 = .ok (.iaload, 1) := by decide +kernel
theorem dL_isSo_312 : decode cL_isSo 312 = .ok (.invokevirtual 77, 3) := by decide +kernel
theorem dL_isSo_315 : decode cL_isSo 315 = .ok (.iconst (-1), 1) := by decide +kernel
theorem dL_isSo_316 : decode cL_isSo 316 = .ok (.if_icmp .ne 18, 3) := by decide +kernel
theorem dL_isSo_319 : decode cL_isSo 319 = .ok (.aload_n 0, 1) := by decide +kernel
theorem dL_isSo_320 : decode cL_isSo 320 = .ok (.aload_n 1, 1) := by decide +kernel
theorem dL_isSo_321 : decode cL_isSo 321 = .ok (.iconst 1, 1) := by decide +kernel
theorem dL_isSo_322 : decode cL_isSo 322 = .ok (.iaload, 1) := by decide +kernel
theorem dL_isSo_323 : decode cL_isSo 323 = .ok (.invokevirtual 80, 3) := by decide +kernel
theorem dL_isSo_326 : decode cL_isSo 326 = .ok (.iconst (-1), 1) := by decide +kernel
theorem dL_isSo_327 : decode cL_isSo 327 = .ok (.if_icmp .ne 7, 3) := by decide +kernel
theorem dL_isSo_330 : decode cL_isSo 330 = .ok (.iconst 1, 1) := by decide +kernel
theorem dL_isSo_331 : decode cL_isSo 331 = .ok (.goto 4, 3) := by decide +kernel
theorem dL_isSo_334 : decode cL_isSo 334 = .ok (.iconst 0, 1) := by decide +kernel
theorem dL_isSo_335 : decode cL_isSo 335 = .ok (.ireturn, 1) := by decide +kernel
