set_option maxRecDepth 20000 in
theorem ggL_isProved_X6_total : GoodIn wsL_isProved wsX6_total := goodIn_r _ [6, 7, 8, 9, 10, 11, 12, 13, 14, 15, 16, 17, 18, 19, 20, 21, 22, 23, 24, 25, 26, 27, 28, 29, 30, 31, 32, 33, 34, 35, 36, 37, 38, 39, 40, 41, 42, 43, 44, 45, 182, 183, 184, 185, 186, 187, 188, 189, 190, 191, 192, 193, 194, 195] (by decide +kernel) (by decide +kernel)
set_option maxRecDepth 20000 in
theorem gL_isProved_X6_total : GoodIn wsL_isProved (wsV RL 22 RX6 yX6_total wsX6_total) := goodIn_app (goodIn_of _ (by decide +kernel)) ggL_isProved_X6_total
set_option maxRecDepth 20000 in
theorem ggL_isProved_X6_proof : GoodIn wsL_isProved wsX6_proof := goodIn_r _ [49, 50, 51, 52, 53, 54, 55, 56, 57, 58, 59, 60, 61, 62, 63, 38, 64, 65, 9, 10, 11, 12, 13, 14, 15, 16, 17, 18, 19, 20, 21, 22, 23, 24, 25, 26, 27, 28, 29, 30, 31, 32, 33, 34, 35, 36, 37, 39, 40, 41, 42, 43, 44, 45, 66, 67, 68, 69, 70, 71, 72, 73, 74, 75, 76, 77, 78, 79, 80, 81, 82, 83, 84, 85, 86, 87, 88, 89, 90, 182, 183, 184, 185, 186, 187, 196, 197, 198, 192, 193, 194, 195, 188, 189, 190, 191] (by decide +kernel) (by decide +kernel)
set_option maxRecDepth 20000 in
theorem gL_isProved_X6_proof : GoodIn wsL_isProved (wsV RL 71 RX6 yX6_proof wsX6_proof) := goodIn_app (goodIn_of _ (by decide +kernel)) ggL_isProved_X6_proof
set_option maxRecDepth 20000 in
theorem ggL_isProved_X6_price : GoodIn wsL_isProved wsX6_price := goodIn_r _ [94, 50, 95, 96, 97, 98, 5, 99, 100, 101, 102, 103, 104, 54, 105, 59, 106, 107, 108, 11, 109, 13, 24, 14, 15, 16, 17, 18, 19, 25, 26, 27, 28, 29, 30, 31, 32, 33, 34, 35, 36, 37, 38, 39, 40, 41, 42, 43, 44, 45, 51, 52, 53, 55, 56, 57, 58, 60, 61, 62, 63, 64, 65, 9, 10, 12, 20, 21, 22, 23, 66, 67, 68, 69, 70, 71, 72, 73, 74, 75, 76, 182, 183, 184, 185, 186, 187, 196, 197, 198, 192, 193, 194, 195, 188, 189, 190, 191] (by decide +kernel) (by decide +kernel)
set_option maxRecDepth 20000 in
theorem gL_isProved_X6_price : GoodIn wsL_isProved (wsV RL 74 RX6 yX6_price wsX6_price) := goodIn_app (goodIn_of _ (by decide +kernel)) ggL_isProved_X6_price
set_option maxRecDepth 20000 in
theorem ggL_isProved_X6_taskOf : GoodIn wsL_isProved wsX6_taskOf := goodIn_r _ [113, 7, 114, 115, 116, 117, 5, 118, 100, 119, 120, 121, 122, 11, 123, 124, 13, 30, 125, 126, 9, 10, 12, 14, 15, 16, 17, 18, 19, 20, 21, 22, 23, 24, 25, 26, 27, 28, 29, 31, 32, 33, 34, 35, 36, 37, 38, 39, 40, 41, 42, 43, 44, 45, 127, 128, 129, 130, 182, 183, 184, 185, 186, 187, 188, 189, 190, 191, 192, 193, 194, 195] (by decide +kernel) (by decide +kernel)
set_option maxRecDepth 20000 in
theorem gL_isProved_X6_taskOf : GoodIn wsL_isProved (wsV RL 77 RX6 yX6_taskOf wsX6_taskOf) := goodIn_app (goodIn_of _ (by decide +kernel)) ggL_isProved_X6_taskOf
set_option maxRecDepth 20000 in
theorem ggL_isProved_X6_workerOf : GoodIn wsL_isProved wsX6_workerOf := goodIn_r _ [134, 7, 100, 119, 114, 96, 97, 98, 5, 99, 101, 120, 121, 122, 11, 123, 124, 13, 30, 125, 126, 9, 10, 12, 14, 15, 16, 17, 18, 19, 20, 21, 22, 23, 24, 25, 26, 27, 28, 29, 31, 32, 33, 34, 35, 36, 37, 38, 39, 40, 41, 42, 43, 44, 45, 127, 128, 129, 130, 182, 183, 184, 185, 186, 187, 192, 193, 194, 195, 188, 189, 190, 191] (by decide +kernel) (by decide +kernel)
set_option maxRecDepth 20000 in
theorem gL_isProved_X6_workerOf : GoodIn wsL_isProved (wsV RL 80 RX6 yX6_workerOf wsX6_workerOf) := goodIn_app (goodIn_of _ (by decide +kernel)) ggL_isProved_X6_workerOf
set_option maxRecDepth 20000 in
theorem ggL_isProved_X6_workerIs : GoodIn wsL_isProved wsX6_workerIs := goodIn_r _ [138, 7, 100, 50, 139, 115, 116, 117, 5, 118, 119, 8, 9, 10, 11, 12, 13, 14, 15, 16, 17, 18, 19, 20, 21, 22, 23, 24, 25, 26, 27, 28, 29, 30, 31, 32, 33, 34, 35, 36, 37, 38, 39, 40, 41, 42, 43, 44, 45, 140, 67, 68, 69, 70, 141, 51, 52, 53, 54, 55, 56, 57, 58, 59, 60, 61, 62, 63, 64, 65, 66, 71, 72, 73, 74, 75, 76, 142, 82, 83, 84, 85, 86, 143, 144, 145, 146, 81, 182, 183, 184, 185, 186, 187, 192, 193, 194, 195, 188, 189, 190, 191, 196, 197, 198] (by decide +kernel) (by decide +kernel)
set_option maxRecDepth 20000 in
theorem gL_isProved_X6_workerIs : GoodIn wsL_isProved (wsV RL 83 RX6 yX6_workerIs wsX6_workerIs) := goodIn_app (goodIn_of _ (by decide +kernel)) ggL_isProved_X6_workerIs
set_option maxRecDepth 20000 in
theorem ggL_isProved_X6_count : GoodIn wsL_isProved wsX6_count := goodIn_r _ [150, 100, 119, 101, 7, 50, 151, 152, 153, 154, 155, 156, 157, 17, 158, 19, 159, 160, 73, 74, 75, 76, 120, 121, 122, 11, 123, 124, 13, 30, 125, 126, 9, 10, 12, 14, 15, 16, 18, 20, 21, 22, 23, 24, 25, 26, 27, 28, 29, 31, 32, 33, 34, 35, 36, 37, 38, 39, 40, 41, 42, 43, 44, 45, 127, 128, 129, 130, 161, 162, 163, 164, 51, 52, 53, 54, 55, 56, 57, 58, 59, 60, 61, 62, 63, 64, 65, 66, 67, 68, 69, 70, 71, 72, 165, 166, 167, 168, 169, 144, 145, 146, 81, 82, 83, 84, 85, 86, 170, 171, 172, 173, 174, 175, 176, 87, 88, 89, 90, 177, 178, 179, 180, 181, 103, 104, 105, 106, 107, 108, 109, 182, 183, 184, 185, 186, 187, 192, 193, 194, 195, 199, 200, 201, 202, 188, 189, 190, 191, 196, 197, 198] (by decide +kernel) (by decide +kernel)
set_option maxRecDepth 20000 in
theorem gL_isProved_X6_count : GoodIn wsL_isProved (wsV RL 86 RX6 yX6_count wsX6_count) := goodIn_app (goodIn_of _ (by decide +kernel)) ggL_isProved_X6_count
theorem dL_isProved_0 : decode cL_isProved 0 = .ok (.aload_n 0, 1) := by decide +kernel
theorem dL_isProved_1 : decode cL_isProved 1 = .ok (.invokevirtual 22, 3) := by decide +kernel
theorem dL_isProved_4 : decode cL_isProved 4 = .ok (.istore 4, 2) := by decide +kernel
theorem dL_isProved_6 : decode cL_isProved 6 = .ok (.iconst 0, 1) := by decide +kernel
theorem dL_isProved_7 : decode cL_isProved 7 = .ok (.istore 5, 2) := by decide +kernel
theorem dL_isProved_9 : decode cL_isProved 9 = .ok (.iconst 0, 1) := by decide +kernel
theorem dL_isProved_10 : decode cL_isProved 10 = .ok (.istore 6, 2) := by decide +kernel
theorem dL_isProved_12 : decode cL_isProved 12 = .ok (.iconst 0, 1) := by decide +kernel
theorem dL_isProved_13 : decode cL_isProved 13 = .ok (.istore 7, 2) := by decide +kernel
theorem dL_isProved_15 : decode cL_isProved 15 = .ok (.iconst 0, 1) := by decide +kernel
theorem dL_isProved_16 : decode cL_isProved 16 = .ok (.istore 8, 2) := by decide +kernel
theorem dL_isProved_18 : decode cL_isProved 18 = .ok (.iconst 0, 1) := by decide +kernel
theorem dL_isProved_19 : decode cL_isProved 19 = .ok (.istore 9, 2) := by decide +kernel
theorem dL_isProved_21 : decode cL_isProved 21 = .ok (.iconst 0, 1) := by decide +kernel
theorem dL_isProved_22 : decode cL_isProved 22 = .ok (.istore 10, 2) := by decide +kernel
theorem dL_isProved_24 : decode cL_isProved 24 = .ok (.bipush 7, 2) := by decide +kernel
theorem dL_isProved_26 : decode cL_isProved 26 = .ok (.newarray .int, 2) := by decide +kernel
theorem dL_isProved_28 : decode cL_isProved 28 = .ok (.astore 11, 2) := by decide +kernel
theorem dL_isProved_30 : decode cL_isProved 30 = .ok (.aload_n 0, 1) := by decide +kernel
theorem dL_isProved_31 : decode cL_isProved 31 = .ok (.invokevirtual 71, 3) := by decide +kernel
theorem dL_isProved_34 : decode cL_isProved 34 = .ok (.iload 4, 2) := by decide +kernel
theorem dL_isProved_36 : decode cL_isProved 36 = .ok (.if_icmp .ne 7, 3) := by decide +kernel
theorem dL_isProved_39 : decode cL_isProved 39 = .ok (.iconst 1, 1) := by decide +kernel
theorem dL_isProved_40 : decode cL_isProved 40 = .ok (.goto 4, 3) := by decide +kernel
theorem dL_isProved_43 : decode cL_isProved 43 = .ok (.iconst 0, 1) := by decide +kernel
theorem dL_isProved_44 : decode cL_isProved 44 = .ok (.istore 12, 2) := by decide +kernel
theorem dL_isProved_46 : decode cL_isProved 46 = .ok (.iconst 0, 1) := by decide +kernel
theorem dL_isProved_47 : decode cL_isProved 47 = .ok (.istore 13, 2) := by decide +kernel
theorem dL_isProved_49 : decode cL_isProved 49 = .ok (.iload 13, 2) := by decide +kernel
theorem dL_isProved_51 : decode cL_isProved 51 = .ok (.aload_n 1, 1) := by decide +kernel
theorem dL_isProved_52 : decode cL_isProved 52 = .ok (.iconst 1, 1) := by decide +kernel
theorem dL_isProved_53 : decode cL_isProved 53 = .ok (.iaload, 1) := by decide +kernel
theorem dL_isProved_54 : decode cL_isProved 54 = .ok (.if_icmp .ge 89, 3) := by decide +kernel
theorem dL_isProved_57 : decode cL_isProved 57 = .ok (.iload 12, 2) := by decide +kernel
theorem dL_isProved_59 : decode cL_isProved 59 = .ok (.ifCond .eq 84, 3) := by decide +kernel
theorem dL_isProved_62 : decode cL_isProved 62 = .ok (.aload 11, 2) := by decide +kernel
theorem dL_isProved_64 : decode cL_isProved 64 = .ok (.iload 13, 2) := by decide +kernel
theorem dL_isProved_66 : decode cL_isProved 66 = .ok (.aload_n 0, 1) := by decide +kernel
theorem dL_isProved_67 : decode cL_isProved 67 = .ok (.iload 13, 2) := by decide +kernel
theorem dL_isProved_69 : decode cL_isProved 69 = .ok (.iconst 0, 1) := by decide +kernel
theorem dL_isProved_70 : decode cL_isProved 70 = .ok (.invokevirtual 74, 3) := by decide +kernel
theorem dL_isProved_73 : decode cL_isProved 73 = .ok (.iastore, 1) := by decide +kernel
theorem dL_isProved_74 : decode cL_isProved 74 = .ok (.iload 7, 2) := by decide +kernel
theorem dL_isProved_76 : decode cL_isProved 76 = .ok (.aload 11, 2) := by decide +kernel
theorem dL_isProved_78 : decode cL_isProved 78 = .ok (.iload 13, 2) := by decide +kernel
theorem dL_isProved_80 : decode cL_isProved 80 = .ok (.iaload, 1) := by decide +kernel
theorem dL_isProved_81 : decode cL_isProved 81 = .ok (.iadd, 1) := by decide +kernel
theorem dL_isProved_82 : decode cL_isProved 82 = .ok (.istore 7, 2) := by decide +kernel
theorem dL_isProved_84 : decode cL_isProved 84 = .ok (.iload 8, 2) := by decide +kernel
theorem dL_isProved_86 : decode cL_isProved 86 = .ok (.aload_n 0, 1) := by decide +kernel
theorem dL_isProved_87 : decode cL_isProved 87 = .ok (.iload 13, 2) := by decide +kernel
theorem dL_isProved_89 : decode cL_isProved 89 = .ok (.iconst 1, 1) := by decide +kernel
theorem dL_isProved_90 : decode cL_isProved 90 = .ok (.invokevirtual 74, 3) := by decide +kernel
theorem dL_isProved_93 : decode cL_isProved 93 = .ok (.iadd, 1) := by decide +kernel
theorem dL_isProved_94 : decode cL_isProved 94 = .ok (.istore 8, 2) := by decide +kernel
theorem dL_isProved_96 : decode cL_isProved 96 = .ok (.aload 11, 2) := by decide +kernel
theorem dL_isProved_98 : decode cL_isProved 98 = .ok (.iload 13, 2) := by decide +kernel
theorem dL_isProved_100 : decode cL_isProved 100 = .ok (.iaload, 1) := by decide +kernel
theorem dL_isProved_101 : decode cL_isProved 101 = .ok (.ifCond .lt 33, 3) := by decide +kernel
theorem dL_isProved_104 : decode cL_isProved 104 = .ok (.aload_n 0, 1) := by decide +kernel
theorem dL_isProved_105 : decode cL_isProved 105 = .ok (.iload 13, 2) := by decide +kernel
theorem dL_isProved_107 : decode cL_isProved 107 = .ok (.iconst 1, 1) := by decide +kernel
theorem dL_isProved_108 : decode cL_isProved 108 = .ok (.invokevirtual 74, 3) := by decide +kernel
theorem dL_isProved_111 : decode cL_isProved 111 = .ok (.aload 11, 2) := by decide +kernel
theorem dL_isProved_113 : decode cL_isProved 113 = .ok (.iload 13, 2) := by decide +kernel
theorem dL_isProved_115 : decode cL_isProved 115 = .ok (.iaload, 1) := by decide +kernel
theorem dL_isProved_116 : decode cL_isProved 116 = .ok (.if_icmp .lt 18, 3) := by decide +kernel
theorem dL_isProved_119 : decode cL_isProved 119 = .ok (.aload_n 0, 1) := by decide +kernel
theorem dL_isProved_120 : decode cL_isProved 120 = .ok (.iload 13, 2) := by decide +kernel
theorem dL_isProved_122 : decode cL_isProved 122 = .ok (.iconst 2, 1) := by decide +kernel
theorem dL_isProved_123 : decode cL_isProved 123 = .ok (.invokevirtual 74, 3) := by decide +kernel
theorem dL_isProved_126 : decode cL_isProved 126 = .ok (.iconst (-1), 1) := by decide +kernel
theorem dL_isProved_127 : decode cL_isProved 127 = .ok (.if_icmp .ne 7, 3) := by decide +kernel
theorem dL_isProved_130 : decode cL_isProved 130 = .ok (.iconst 1, 1) := by decide +kernel
theorem dL_isProved_131 : decode cL_isProved 131 = .ok (.goto 4, 3) := by decide +kernel
theorem dL_isProved_134 : decode cL_isProved 134 = .ok (.iconst 0, 1) := by decide +kernel
theorem dL_isProved_135 : decode cL_isProved 135 = .ok (.istore 12, 2) := by decide +kernel
theorem dL_isProved_137 : decode cL_isProved 137 = .ok (.iinc 13 1, 3) := by decide +kernel
theorem dL_isProved_140 : decode cL_isProved 140 = .ok (.goto (-91), 3) := by decide +kernel
theorem dL_isProved_143 : decode cL_isProved 143 = .ok (.iconst 0, 1) := by decide +kernel
theorem dL_isProved_144 : decode cL_isProved 144 = .ok (.istore 13, 2) := by decide +kernel
theorem dL_isProved_146 : decode cL_isProved 146 = .ok (.iload 13, 2) := by decide +kernel
theorem dL_isProved_148 : decode cL_isProved 148 = .ok (.aload_n 1, 1) := by decide +kernel
theorem dL_isProved_149 : decode cL_isProved 149 = .ok (.iconst 0, 1) := by decide +kernel
theorem dL_isProved_150 : decode cL_isProved 150 = .ok (.iaload, 1) := by decide +kernel
theorem dL_isProved_151 : decode cL_isProved 151 = .ok (.if_icmp .ge 322, 3) := by decide +kernel
theorem dL_isProved_154 : decode cL_isProved 154 = .ok (.iload 12, 2) := by decide +kernel
theorem dL_isProved_156 : decode cL_isProved 156 = .ok (.ifCond .eq 317, 3) := by decide +kernel
theorem dL_isProved_159 : decode cL_isProved 159 = .ok (.aload_n 0, 1) := by decide +kernel
theorem dL_isProved_160 : decode cL_isProved 160 = .ok (.iload 13, 2) := by decide +kernel
theorem dL_isProved_162 : decode cL_isProved 162 = .ok (.invokevirtual 77, 3) := by decide +kernel
theorem dL_isProved_165 : decode cL_isProved 165 = .ok (.istore 14, 2) := by decide +kernel
theorem dL_isProved_167 : decode cL_isProved 167 = .ok (.iload 14, 2) := by decide +kernel
theorem dL_isProved_169 : decode cL_isProved 169 = .ok (.bipush (-4), 2) := by decide +kernel
theorem dL_isProved_171 : decode cL_isProved 171 = .ok (.if_icmp .eq 50, 3) := by decide +kernel
theorem dL_isProved_174 : decode cL_isProved 174 = .ok (.iload 14, 2) := by decide +kernel
theorem dL_isProved_176 : decode cL_isProved 176 = .ok (.ifCond .lt 49, 3) := by decide +kernel
theorem dL_isProved_179 : decode cL_isProved 179 = .ok (.iload 14, 2) := by decide +kernel
theorem dL_isProved_181 : decode cL_isProved 181 = .ok (.aload_n 1, 1) := by decide +kernel
theorem dL_isProved_182 : decode cL_isProved 182 = .ok (.iconst 1, 1) := by decide +kernel
theorem dL_isProved_183 : decode cL_isProved 183 = .ok (.iaload, 1) := by decide +kernel
theorem dL_isProved_184 : decode cL_isProved 184 = .ok (.if_icmp .ge 41, 3) := by decide +kernel
theorem dL_isProved_187 : decode cL_isProved 187 = .ok (.aload_n 2, 1) := by decide +kernel
theorem dL_isProved_188 : decode cL_isProved 188 = .ok (.bipush 7, 2) := by decide +kernel
theorem dL_isProved_190 : decode cL_isProved 190 = .ok (.iload 13, 2) := by decide +kernel
theorem dL_isProved_192 : decode cL_isProved 192 = .ok (.imul, 1) := by decide +kernel
theorem dL_isProved_193 : decode cL_isProved 193 = .ok (.iload 14, 2) := by decide +kernel
theorem dL_isProved_195 : decode cL_isProved 195 = .ok (.iadd, 1) := by decide +kernel
theorem dL_isProved_196 : decode cL_isProved 196 = .ok (.iaload, 1) := by decide +kernel
theorem dL_isProved_197 : decode cL_isProved 197 = .ok (.ifCond .lt 28, 3) := by decide +kernel
theorem dL_isProved_200 : decode cL_isProved 200 = .ok (.iload 10, 2) := by decide +kernel
theorem dL_isProved_202 : decode cL_isProved 202 = .ok (.iload 14, 2) := by decide +kernel
theorem dL_isProved_204 : decode cL_isProved 204 = .ok (.ishr, 1) := by decide +kernel
theorem dL_isProved_205 : decode cL_isProved 205 = .ok (.iconst 1, 1) := by decide +kernel
theorem dL_isProved_206 : decode cL_isProved 206 = .ok (.iand, 1) := by decide +kernel
theorem dL_isProved_207 : decode cL_isProved 207 = .ok (.ifCond .ne 18, 3) := by decide +kernel
theorem dL_isProved_210 : decode cL_isProved 210 = .ok (.aload_n 0, 1) := by decide +kernel
theorem dL_isProved_211 : decode cL_isProved 211 = .ok (.iload 14, 2) := by decide +kernel
theorem dL_isProved_213 : decode cL_isProved 213 = .ok (.invokevirtual 80, 3) := by decide +kernel
theorem dL_isProved_216 : decode cL_isProved 216 = .ok (.iload 13, 2) := by decide +kernel
theorem dL_isProved_218 : decode cL_isProved 218 = .ok (.if_icmp .ne 7, 3) := by decide +kernel
theorem dL_isProved_221 : decode cL_isProved 221 = .ok (.iconst 1, 1) := by decide +kernel
theorem dL_isProved_222 : decode cL_isProved 222 = .ok (.goto 4, 3) := by decide +kernel
theorem dL_isProved_225 : decode cL_isProved 225 = .ok (.iconst 0, 1) := by decide +kernel
theorem dL_isProved_226 : decode cL_isProved 226 = .ok (.istore 12, 2) := by decide +kernel
theorem dL_isProved_228 : decode cL_isProved 228 = .ok (.iload 12, 2) := by decide +kernel
theorem dL_isProved_230 : decode cL_isProved 230 = .ok (.ifCond .eq 237, 3) := by decide +kernel
theorem dL_isProved_233 : decode cL_isProved 233 = .ok (.iload 5, 2) := by decide +kernel
theorem dL_isProved_235 : decode cL_isProved 235 = .ok (.iload 14, 2) := by decide +kernel
theorem dL_isProved_237 : decode cL_isProved 237 = .ok (.ifCond .ge 10, 3) := by decide +kernel
theorem dL_isProved_240 : decode cL_isProved 240 = .ok (.aload_n 3, 1) := by decide +kernel
theorem dL_isProved_241 : decode cL_isProved 241 = .ok (.iload 13, 2) := by decide +kernel
theorem dL_isProved_243 : decode cL_isProved 243 = .ok (.iaload, 1) := by decide +kernel
theorem dL_isProved_244 : decode cL_isProved 244 = .ok (.goto 13, 3) := by decide +kernel
theorem dL_isProved_247 : decode cL_isProved 247 = .ok (.aload_n 2, 1) := by decide +kernel
theorem dL_isProved_248 : decode cL_isProved 248 = .ok (.bipush 7, 2) := by decide +kernel
theorem dL_isProved_250 : decode cL_isProved 250 = .ok (.iload 13, 2) := by decide +kernel
theorem dL_isProved_252 : decode cL_isProved 252 = .ok (.imul, 1) := by decide +kernel
theorem dL_isProved_253 : decode cL_isProved 253 = .ok (.iload 14, 2) := by decide +kernel
theorem dL_isProved_255 : decode cL_isProved 255 = .ok (.iadd, 1) := by decide +kernel
theorem dL_isProved_256 : decode cL_isProved 256 = .ok (.iaload, 1) := by decide +kernel
theorem dL_isProved_257 : decode cL_isProved 257 = .ok (.iadd, 1) := by decide +kernel
theorem dL_isProved_258 : decode cL_isProved 258 = .ok (.istore 5, 2) := by decide +kernel
theorem dL_isProved_260 : decode cL_isProved 260 = .ok (.iload 10, 2) := by decide +kernel
theorem dL_isProved_262 : decode cL_isProved 262 = .ok (.iload 14, 2) := by decide +kernel
theorem dL_isProved_264 : decode cL_isProved 264 = .ok (.ifCond .ge 7, 3) := by decide +kernel
theorem dL_isProved_267 : decode cL_isProved 267 = .ok (.iconst 0, 1) := by decide +kernel
theorem dL_isProved_268 : decode cL_isProved 268 = .ok (.goto 7, 3) := by decide +kernel
theorem dL_isProved_271 : decode cL_isProved 271 = .ok (.iconst 1, 1) := by decide +kernel
theorem dL_isProved_272 : decode cL_isProved 272 = .ok (.iload 14, 2) := by decide +kernel
theorem dL_isProved_274 : decode cL_isProved 274 = .ok (.ishl, 1) := by decide +kernel
theorem dL_isProved_275 : decode cL_isProved 275 = .ok (.ior, 1) := by decide +kernel
theorem dL_isProved_276 : decode cL_isProved 276 = .ok (.istore 10, 2) := by decide +kernel
theorem dL_isProved_278 : decode cL_isProved 278 = .ok (.iload 9, 2) := by decide +kernel
theorem dL_isProved_280 : decode cL_isProved 280 = .ok (.iload 14, 2) := by decide +kernel
theorem dL_isProved_282 : decode cL_isProved 282 = .ok (.ifCond .ge 7, 3) := by decide +kernel
theorem dL_isProved_285 : decode cL_isProved 285 = .ok (.iconst 0, 1) := by decide +kernel
theorem dL_isProved_286 : decode cL_isProved 286 = .ok (.goto 4, 3) := by decide +kernel
theorem dL_isProved_289 : decode cL_isProved 289 = .ok (.iconst 1, 1) := by decide +kernel
theorem dL_isProved_290 : decode cL_isProved 290 = .ok (.iadd, 1) := by decide +kernel
theorem dL_isProved_291 : decode cL_isProved 291 = .ok (.istore 9, 2) := by decide +kernel
theorem dL_isProved_293 : decode cL_isProved 293 = .ok (.aload_n 3, 1) := by decide +kernel
theorem dL_isProved_294 : decode cL_isProved 294 = .ok (.iload 13, 2) := by decide +kernel
theorem dL_isProved_296 : decode cL_isProved 296 = .ok (.iaload, 1) := by decide +kernel
theorem dL_isProved_297 : decode cL_isProved 297 = .ok (.istore 15, 2) := by decide +kernel
theorem dL_isProved_299 : decode cL_isProved 299 = .ok (.iconst 0, 1) := by decide +kernel
theorem dL_isProved_300 : decode cL_isProved 300 = .ok (.istore 16, 2) := by decide +kernel
theorem dL_isProved_302 : decode cL_isProved 302 = .ok (.iload 16, 2) := by decide +kernel
theorem dL_isProved_304 : decode cL_isProved 304 = .ok (.aload_n 1, 1) := by decide +kernel
theorem dL_isProved_305 : decode cL_isProved 305 = .ok (.iconst 1, 1) := by decide +kernel
theorem dL_isProved_306 : decode cL_isProved 306 = .ok (.iaload, 1) := by decide +kernel
theorem dL_isProved_307 : decode cL_isProved 307 = .ok (.if_icmp .ge 66, 3) := by decide +kernel
theorem dL_isProved_310 : decode cL_isProved 310 = .ok (.aload_n 2, 1) := by decide +kernel
theorem dL_isProved_311 : decode cL_isProved 311 = .ok (.bipush 7, 2) := by decide +kernel
theorem dL_isProved_313 : decode cL_isProved 313 = .ok (.iload 13, 2) := by decide +kernel
theorem dL_isProved_315 : decode cL_isProved 315 = .ok (.imul, 1) := by decide +kernel
theorem dL_isProved_316 : decode cL_isProved 316 = .ok (.iload 16, 2) := by decide +kernel
theorem dL_isProved_318 : decode cL_isProved 318 = .ok (.iadd, 1) := by decide +kernel
theorem dL_isProved_319 : decode cL_isProved 319 = .ok (.iaload, 1) := by decide +kernel
theorem dL_isProved_320 : decode cL_isProved 320 = .ok (.ifCond .lt 43, 3) := by decide +kernel
theorem dL_isProved_323 : decode cL_isProved 323 = .ok (.aload_n 2, 1) := by decide +kernel
theorem dL_isProved_324 : decode cL_isProved 324 = .ok (.bipush 7, 2) := by decide +kernel
theorem dL_isProved_326 : decode cL_isProved 326 = .ok (.iload 13, 2) := by decide +kernel
theorem dL_isProved_328 : decode cL_isProved 328 = .ok (.imul, 1) := by decide +kernel
theorem dL_isProved_329 : decode cL_isProved 329 = .ok (.iload 16, 2) := by decide +kernel
theorem dL_isProved_331 : decode cL_isProved 331 = .ok (.iadd, 1) := by decide +kernel
theorem dL_isProved_332 : decode cL_isProved 332 = .ok (.iaload, 1) := by decide +kernel
theorem dL_isProved_333 : decode cL_isProved 333 = .ok (.aload 11, 2) := by decide +kernel
theorem dL_isProved_335 : decode cL_isProved 335 = .ok (.iload 16, 2) := by decide +kernel
theorem dL_isProved_337 : decode cL_isProved 337 = .ok (.iaload, 1) := by decide +kernel
theorem dL_isProved_338 : decode cL_isProved 338 = .ok (.iadd, 1) := by decide +kernel
theorem dL_isProved_339 : decode cL_isProved 339 = .ok (.iload 15, 2) := by decide +kernel
theorem dL_isProved_341 : decode cL_isProved 341 = .ok (.if_icmp .ge 22, 3) := by decide +kernel
theorem dL_isProved_344 : decode cL_isProved 344 = .ok (.aload_n 2, 1) := by decide +kernel
theorem dL_isProved_345 : decode cL_isProved 345 = .ok (.bipush 7, 2) := by decide +kernel
theorem dL_isProved_347 : decode cL_isProved 347 = .ok (.iload 13, 2) := by decide +kernel
theorem dL_isProved_349 : decode cL_isProved 349 = .ok (.imul, 1) := by decide +kernel
theorem dL_isProved_350 : decode cL_isProved 350 = .ok (.iload 16, 2) := by decide +kernel
theorem dL_isProved_352 : decode cL_isProved 352 = .ok (.iadd, 1) := by decide +kernel
theorem dL_isProved_353 : decode cL_isProved 353 = .ok (.iaload, 1) := by decide +kernel
theorem dL_isProved_354 : decode cL_isProved 354 = .ok (.aload 11, 2) := by decide +kernel
theorem dL_isProved_356 : decode cL_isProved 356 = .ok (.iload 16, 2) := by decide +kernel
theorem dL_isProved_358 : decode cL_isProved 358 = .ok (.iaload, 1) := by decide +kernel
theorem dL_isProved_359 : decode cL_isProved 359 = .ok (.iadd, 1) := by decide +kernel
theorem dL_isProved_360 : decode cL_isProved 360 = .ok (.goto 5, 3) := by decide +kernel
theorem dL_isProved_363 : decode cL_isProved 363 = .ok (.iload 15, 2) := by decide +kernel
theorem dL_isProved_365 : decode cL_isProved 365 = .ok (.istore 15, 2) := by decide +kernel
theorem dL_isProved_367 : decode cL_isProved 367 = .ok (.iinc 16 1, 3) := by decide +kernel
theorem dL_isProved_370 : decode cL_isProved 370 = .ok (.goto (-68), 3) := by decide +kernel
theorem dL_isProved_373 : decode cL_isProved 373 = .ok (.iload 6, 2) := by decide +kernel
theorem dL_isProved_375 : decode cL_isProved 375 = .ok (.iload 15, 2) := by decide +kernel
theorem dL_isProved_377 : decode cL_isProved 377 = .ok (.iadd, 1) := by decide +kernel
theorem dL_isProved_378 : decode cL_isProved 378 = .ok (.istore 6, 2) := by decide +kernel
theorem dL_isProved_380 : decode cL_isProved 380 = .ok (.aload_n 0, 1) := by decide +kernel
theorem dL_isProved_381 : decode cL_isProved 381 = .ok (.iload 13, 2) := by decide +kernel
theorem dL_isProved_383 : decode cL_isProved 383 = .ok (.iconst 0, 1) := by decide +kernel
theorem dL_isProved_384 : decode cL_isProved 384 = .ok (.invokevirtual 83, 3) := by decide +kernel
theorem dL_isProved_387 : decode cL_isProved 387 = .ok (.iload 15, 2) := by decide +kernel
theorem dL_isProved_389 : decode cL_isProved 389 = .ok (.if_icmp .ne 75, 3) := by decide +kernel
theorem dL_isProved_392 : decode cL_isProved 392 = .ok (.aload_n 0, 1) := by decide +kernel
theorem dL_isProved_393 : decode cL_isProved 393 = .ok (.iload 13, 2) := by decide +kernel
theorem dL_isProved_395 : decode cL_isProved 395 = .ok (.iconst 2, 1) := by decide +kernel
theorem dL_isProved_396 : decode cL_isProved 396 = .ok (.invokevirtual 83, 3) := by decide +kernel
theorem dL_isProved_399 : decode cL_isProved 399 = .ok (.iload 15, 2) := by decide +kernel
theorem dL_isProved_401 : decode cL_isProved 401 = .ok (.aload_n 3, 1) := by decide +kernel
theorem dL_isProved_402 : decode cL_isProved 402 = .ok (.iload 13, 2) := by decide +kernel
theorem dL_isProved_404 : decode cL_isProved 404 = .ok (.iaload, 1) := by decide +kernel
theorem dL_isProved_405 : decode cL_isProved 405 = .ok (.if_icmp .ne 7, 3) := by decide +kernel
theorem dL_isProved_408 : decode cL_isProved 408 = .ok (.iconst 1, 1) := by decide +kernel
theorem dL_isProved_409 : decode cL_isProved 409 = .ok (.goto 4, 3) := by decide +kernel
theorem dL_isProved_412 : decode cL_isProved 412 = .ok (.iconst 0, 1) := by decide +kernel
theorem dL_isProved_413 : decode cL_isProved 413 = .ok (.if_icmp .ne 51, 3) := by decide +kernel
theorem dL_isProved_416 : decode cL_isProved 416 = .ok (.iload 15, 2) := by decide +kernel
theorem dL_isProved_418 : decode cL_isProved 418 = .ok (.iload 14, 2) := by decide +kernel
theorem dL_isProved_420 : decode cL_isProved 420 = .ok (.ifCond .ge 10, 3) := by decide +kernel
theorem dL_isProved_423 : decode cL_isProved 423 = .ok (.aload_n 3, 1) := by decide +kernel
theorem dL_isProved_424 : decode cL_isProved 424 = .ok (.iload 13, 2) := by decide +kernel
theorem dL_isProved_426 : decode cL_isProved 426 = .ok (.iaload, 1) := by decide +kernel
theorem dL_isProved_427 : decode cL_isProved 427 = .ok (.goto 19, 3) := by decide +kernel
theorem dL_isProved_430 : decode cL_isProved 430 = .ok (.aload_n 2, 1) := by decide +kernel
theorem dL_isProved_431 : decode cL_isProved 431 = .ok (.bipush 7, 2) := by decide +kernel
theorem dL_isProved_433 : decode cL_isProved 433 = .ok (.iload 13, 2) := by decide +kernel
theorem dL_isProved_435 : decode cL_isProved 435 = .ok (.imul, 1) := by decide +kernel
theorem dL_isProved_436 : decode cL_isProved 436 = .ok (.iload 14, 2) := by decide +kernel
theorem dL_isProved_438 : decode cL_isProved 438 = .ok (.iadd, 1) := by decide +kernel
theorem dL_isProved_439 : decode cL_isProved 439 = .ok (.iaload, 1) := by decide +kernel
theorem dL_isProved_440 : decode cL_isProved 440 = .ok (.aload 11, 2) := by decide +kernel
theorem dL_isProved_442 : decode cL_isProved 442 = .ok (.iload 14, 2) := by decide +kernel
theorem dL_isProved_444 : decode cL_isProved 444 = .ok (.iaload, 1) := by decide +kernel
theorem dL_isProved_445 : decode cL_isProved 445 = .ok (.iadd, 1) := by decide +kernel
theorem dL_isProved_446 : decode cL_isProved 446 = .ok (.if_icmp .ne 18, 3) := by decide +kernel
theorem dL_isProved_449 : decode cL_isProved 449 = .ok (.aload_n 0, 1) := by decide +kernel
theorem dL_isProved_450 : decode cL_isProved 450 = .ok (.iload 13, 2) := by decide +kernel
theorem dL_isProved_452 : decode cL_isProved 452 = .ok (.iconst 4, 1) := by decide +kernel
theorem dL_isProved_453 : decode cL_isProved 453 = .ok (.invokevirtual 83, 3) := by decide +kernel
theorem dL_isProved_456 : decode cL_isProved 456 = .ok (.iconst (-1), 1) := by decide +kernel
theorem dL_isProved_457 : decode cL_isProved 457 = .ok (.if_icmp .ne 7, 3) := by decide +kernel
theorem dL_isProved_460 : decode cL_isProved 460 = .ok (.iconst 1, 1) := by decide +kernel
theorem dL_isProved_461 : decode cL_isProved 461 = .ok (.goto 4, 3) := by decide +kernel
theorem dL_isProved_464 : decode cL_isProved 464 = .ok (.iconst 0, 1) := by decide +kernel
theorem dL_isProved_465 : decode cL_isProved 465 = .ok (.istore 12, 2) := by decide +kernel
theorem dL_isProved_467 : decode cL_isProved 467 = .ok (.iinc 13 1, 3) := by decide +kernel
theorem dL_isProved_470 : decode cL_isProved 470 = .ok (.goto (-324), 3) := by decide +kernel
theorem dL_isProved_473 : decode cL_isProved 473 = .ok (.iconst 0, 1) := by decide +kernel
theorem dL_isProved_474 : decode cL_isProved 474 = .ok (.istore 13, 2) := by decide +kernel
theorem dL_isProved_476 : decode cL_isProved 476 = .ok (.iload 13, 2) := by decide +kernel
theorem dL_isProved_478 : decode cL_isProved 478 = .ok (.aload_n 1, 1) := by decide +kernel
theorem dL_isProved_479 : decode cL_isProved 479 = .ok (.iconst 1, 1) := by decide +kernel
theorem dL_isProved_480 : decode cL_isProved 480 = .ok (.iaload, 1) := by decide +kernel
theorem dL_isProved_481 : decode cL_isProved 481 = .ok (.if_icmp .ge 51, 3) := by decide +kernel
theorem dL_isProved_484 : decode cL_isProved 484 = .ok (.iload 12, 2) := by decide +kernel
theorem dL_isProved_486 : decode cL_isProved 486 = .ok (.ifCond .eq 46, 3) := by decide +kernel
theorem dL_isProved_489 : decode cL_isProved 489 = .ok (.iload 10, 2) := by decide +kernel
theorem dL_isProved_491 : decode cL_isProved 491 = .ok (.iload 13, 2) := by decide +kernel
theorem dL_isProved_493 : decode cL_isProved 493 = .ok (.ishr, 1) := by decide +kernel
theorem dL_isProved_494 : decode cL_isProved 494 = .ok (.iconst 1, 1) := by decide +kernel
theorem dL_isProved_495 : decode cL_isProved 495 = .ok (.iand, 1) := by decide +kernel
theorem dL_isProved_496 : decode cL_isProved 496 = .ok (.iconst 1, 1) := by decide +kernel
theorem dL_isProved_497 : decode cL_isProved 497 = .ok (.if_icmp .eq 22, 3) := by decide +kernel
theorem dL_isProved_500 : decode cL_isProved 500 = .ok (.aload_n 0, 1) := by decide +kernel
theorem dL_isProved_501 : decode cL_isProved 501 = .ok (.iload 13, 2) := by decide +kernel
theorem dL_isProved_503 : decode cL_isProved 503 = .ok (.invokevirtual 80, 3) := by decide +kernel
theorem dL_isProved_506 : decode cL_isProved 506 = .ok (.bipush (-4), 2) := by decide +kernel
theorem dL_isProved_508 : decode cL_isProved 508 = .ok (.if_icmp .ne 15, 3) := by decide +kernel
theorem dL_isProved_511 : decode cL_isProved 511 = .ok (.aload 11, 2) := by decide +kernel
theorem dL_isProved_513 : decode cL_isProved 513 = .ok (.iload 13, 2) := by decide +kernel
theorem dL_isProved_515 : decode cL_isProved 515 = .ok (.iaload, 1) := by decide +kernel
theorem dL_isProved_516 : decode cL_isProved 516 = .ok (.ifCond .ne 7, 3) := by decide +kernel
theorem dL_isProved_519 : decode cL_isProved 519 = .ok (.iconst 1, 1) := by decide +kernel
theorem dL_isProved_520 : decode cL_isProved 520 = .ok (.goto 4, 3) := by decide +kernel
theorem dL_isProved_523 : decode cL_isProved 523 = .ok (.iconst 0, 1) := by decide +kernel
theorem dL_isProved_524 : decode cL_isProved 524 = .ok (.istore 12, 2) := by decide +kernel
theorem dL_isProved_526 : decode cL_isProved 526 = .ok (.iinc 13 1, 3) := by decide +kernel
theorem dL_isProved_529 : decode cL_isProved 529 = .ok (.goto (-53), 3) := by decide +kernel
theorem dL_isProved_532 : decode cL_isProved 532 = .ok (.iload 12, 2) := by decide +kernel
theorem dL_isProved_534 : decode cL_isProved 534 = .ok (.ifCond .eq 55, 3) := by decide +kernel
theorem dL_isProved_537 : decode cL_isProved 537 = .ok (.iload 5, 2) := by decide +kernel
theorem dL_isProved_539 : decode cL_isProved 539 = .ok (.iload 4, 2) := by decide +kernel
theorem dL_isProved_541 : decode cL_isProved 541 = .ok (.if_icmp .ne 48, 3) := by decide +kernel
theorem dL_isProved_544 : decode cL_isProved 544 = .ok (.iload 6, 2) := by decide +kernel
theorem dL_isProved_546 : decode cL_isProved 546 = .ok (.iload 7, 2) := by decide +kernel
theorem dL_isProved_548 : decode cL_isProved 548 = .ok (.isub, 1) := by decide +kernel
theorem dL_isProved_549 : decode cL_isProved 549 = .ok (.iload 4, 2) := by decide +kernel
theorem dL_isProved_551 : decode cL_isProved 551 = .ok (.if_icmp .ne 38, 3) := by decide +kernel
theorem dL_isProved_554 : decode cL_isProved 554 = .ok (.aload_n 0, 1) := by decide +kernel
theorem dL_isProved_555 : decode cL_isProved 555 = .ok (.iconst 3, 1) := by decide +kernel
theorem dL_isProved_556 : decode cL_isProved 556 = .ok (.invokevirtual 86, 3) := by decide +kernel
theorem dL_isProved_559 : decode cL_isProved 559 = .ok (.iload 9, 2) := by decide +kernel
theorem dL_isProved_561 : decode cL_isProved 561 = .ok (.if_icmp .ne 28, 3) := by decide +kernel
theorem dL_isProved_564 : decode cL_isProved 564 = .ok (.aload_n 0, 1) := by decide +kernel
theorem dL_isProved_565 : decode cL_isProved 565 = .ok (.iconst 5, 1) := by decide +kernel
theorem dL_isProved_566 : decode cL_isProved 566 = .ok (.invokevirtual 86, 3) := by decide +kernel
theorem dL_isProved_569 : decode cL_isProved 569 = .ok (.iload 7, 2) := by decide +kernel
theorem dL_isProved_571 : decode cL_isProved 571 = .ok (.if_icmp .ne 18, 3) := by decide +kernel
theorem dL_isProved_574 : decode cL_isProved 574 = .ok (.aload_n 0, 1) := by decide +kernel
theorem dL_isProved_575 : decode cL_isProved 575 = .ok (.bipush 6, 2) := by decide +kernel
theorem dL_isProved_577 : decode cL_isProved 577 = .ok (.invokevirtual 86, 3) := by decide +kernel
theorem dL_isProved_580 : decode cL_isProved 580 = .ok (.iload 8, 2) := by decide +kernel
theorem dL_isProved_582 : decode cL_isProved 582 = .ok (.if_icmp .ne 7, 3) := by decide +kernel
theorem dL_isProved_585 : decode cL_isProved 585 = .ok (.iconst 1, 1) := by decide +kernel
theorem dL_isProved_586 : decode cL_isProved 586 = .ok (.goto 4, 3) := by decide +kernel
theorem dL_isProved_589 : decode cL_isProved 589 = .ok (.iconst 0, 1) := by decide +kernel
theorem dL_isProved_590 : decode cL_isProved 590 = .ok (.ireturn, 1) := by decide +kernel
