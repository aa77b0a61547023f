set_option maxRecDepth 20000 in
theorem ggL_acts_L_low : GoodIn wsL_acts wsL_low := goodIn_r _ [7, 8] (by decide +kernel) (by decide +kernel)
set_option maxRecDepth 20000 in
theorem gL_acts_L_low : GoodIn wsL_acts (va_wsS RL 41 yL_low wsL_low) := goodIn_app (goodIn_of _ (by decide +kernel)) ggL_acts_L_low
set_option maxRecDepth 20000 in
theorem ggL_acts_L_tables : GoodIn wsL_acts wsL_tables := goodIn_r _ [11, 12, 13, 14, 15, 16, 17, 18, 19, 20, 21, 22, 23, 24, 25, 26, 27, 28, 29, 30, 31, 32, 33, 34, 35, 36, 37, 38, 39, 40, 41, 42, 43, 44, 45, 46, 47, 48, 49, 50, 51, 52, 53, 54, 55, 56, 57, 58, 59, 60, 61, 62, 63, 64, 65, 66, 67, 68, 69, 70, 71, 72, 73, 74, 75, 76, 77, 78, 79, 237, 238, 239, 240, 241, 242, 243, 244, 245, 246, 247, 248] (by decide +kernel) (by decide +kernel)
set_option maxRecDepth 20000 in
theorem gL_acts_L_tables : GoodIn wsL_acts (va_wsS RL 47 yL_tables wsL_tables) := goodIn_app (goodIn_of _ (by decide +kernel)) ggL_acts_L_tables
set_option maxRecDepth 20000 in
theorem ggL_acts_L_reads : GoodIn wsL_acts wsL_reads := goodIn_r _ [82, 83, 84, 85, 15, 86, 87, 88, 89, 90, 91, 92, 93, 94, 95, 96, 97, 98, 99, 100, 101, 102, 103, 104, 105, 19, 17, 106, 107, 108, 109, 110, 111, 112, 113, 114, 115, 116, 117, 118, 119, 120, 121, 122, 123, 124, 125, 126, 127, 128, 129, 130, 131, 132, 133, 134, 135, 136, 137, 138, 139, 140, 141, 142, 143, 144, 145, 146, 147, 148, 149, 23, 24, 25, 26, 27, 28, 29, 30, 31, 32, 33, 34, 35, 36, 37, 38, 39, 40, 41, 42, 150, 151, 152, 153, 154, 155, 156, 157, 158, 159, 160, 161, 162, 163, 164, 165, 166, 167, 168, 169, 170, 171, 172, 173, 174, 175, 176, 177, 178, 179, 180, 181, 182, 183, 184, 185, 186, 187, 188, 189, 190, 191, 192, 193, 194, 195, 237, 238, 239, 240, 241, 242, 249, 250, 251, 252, 253, 254, 243, 244, 245, 246, 247, 248, 255, 256, 257, 258] (by decide +kernel) (by decide +kernel)
set_option maxRecDepth 20000 in
theorem gL_acts_L_reads : GoodIn wsL_acts (va_wsS RL 51 yL_reads wsL_reads) := goodIn_app (goodIn_of _ (by decide +kernel)) ggL_acts_L_reads
set_option maxRecDepth 20000 in
theorem ggL_acts_X6_times : GoodIn wsL_acts wsX6_times := goodIn_r _ [199, 200, 17, 201, 19, 60, 61, 62, 15, 63, 18, 202, 203, 204, 37, 205, 41, 40, 42, 206, 207, 179, 208, 23, 24, 25, 26, 27, 28, 29, 30, 31, 32, 33, 34, 35, 36, 38, 39, 209, 210, 211, 212, 213, 214, 215, 216, 237, 238, 239, 240, 241, 242, 243, 244, 245, 246, 247, 248] (by decide +kernel) (by decide +kernel)
set_option maxRecDepth 20000 in
theorem gL_acts_X6_times : GoodIn wsL_acts (wsV RL 57 RX6 yX6_times wsX6_times) := goodIn_app (goodIn_of _ (by decide +kernel)) ggL_acts_X6_times
set_option maxRecDepth 20000 in
theorem ggL_acts_X6_idle : GoodIn wsL_acts wsX6_idle := goodIn_r _ [220, 19, 17, 221, 60, 61, 62, 15, 63, 18, 20, 21, 22, 23, 24, 25, 26, 27, 28, 29, 30, 31, 32, 33, 34, 35, 36, 37, 38, 39, 40, 41, 42, 237, 238, 239, 240, 241, 242, 243, 244, 245, 246, 247, 248] (by decide +kernel) (by decide +kernel)
set_option maxRecDepth 20000 in
theorem gL_acts_X6_idle : GoodIn wsL_acts (wsV RL 60 RX6 yX6_idle wsX6_idle) := goodIn_app (goodIn_of _ (by decide +kernel)) ggL_acts_X6_idle
set_option maxRecDepth 20000 in
theorem ggL_acts_X6_total : GoodIn wsL_acts wsX6_total := goodIn_r _ [190, 107, 151, 152, 153, 154, 155, 156, 157, 158, 159, 37, 160, 39, 161, 162, 163, 164, 165, 166, 167, 168, 169, 170, 171, 172, 173, 174, 175, 176, 177, 178, 179, 180, 181, 182, 183, 184, 185, 186, 237, 238, 239, 240, 241, 242, 255, 256, 257, 258, 243, 244, 245, 246] (by decide +kernel) (by decide +kernel)
set_option maxRecDepth 20000 in
theorem gL_acts_X6_total : GoodIn wsL_acts (wsV RL 22 RX6 yX6_total wsX6_total) := goodIn_app (goodIn_of _ (by decide +kernel)) ggL_acts_X6_total
set_option maxRecDepth 20000 in
theorem ggL_acts_X6_bar : GoodIn wsL_acts wsX6_bar := goodIn_r _ [225, 17, 60, 61, 62, 15, 63, 18, 72, 73, 74, 75, 51, 226, 214, 215, 37, 216, 42, 227, 228, 229, 230, 107, 19, 231, 151, 152, 153, 154, 155, 156, 157, 158, 159, 160, 39, 161, 162, 163, 164, 165, 166, 167, 168, 169, 170, 171, 172, 173, 174, 175, 176, 177, 178, 179, 180, 181, 182, 183, 184, 185, 186, 23, 24, 25, 26, 27, 28, 29, 30, 31, 32, 33, 34, 35, 36, 38, 40, 41, 237, 238, 239, 240, 241, 242, 243, 244, 245, 246, 255, 256, 257, 258, 247, 248] (by decide +kernel) (by decide +kernel)
set_option maxRecDepth 20000 in
theorem gL_acts_X6_bar : GoodIn wsL_acts (wsV RL 63 RX6 yX6_bar wsX6_bar) := goodIn_app (goodIn_of _ (by decide +kernel)) ggL_acts_X6_bar
set_option maxRecDepth 20000 in
theorem ggL_acts_X6_cost : GoodIn wsL_acts wsX6_cost := goodIn_r _ [235, 236, 60, 61, 62, 15, 63, 17, 18, 72, 73, 74, 75, 51, 20, 21, 22, 227, 228, 229, 230, 107, 19, 231, 151, 152, 153, 154, 155, 156, 157, 158, 159, 37, 160, 39, 161, 162, 163, 164, 165, 166, 167, 168, 169, 170, 171, 172, 173, 174, 175, 176, 177, 178, 179, 180, 181, 182, 183, 184, 185, 186, 23, 24, 25, 26, 27, 28, 29, 30, 31, 32, 33, 34, 35, 36, 38, 40, 41, 42, 237, 238, 239, 240, 241, 242, 243, 244, 245, 246, 255, 256, 257, 258, 247, 248] (by decide +kernel) (by decide +kernel)
set_option maxRecDepth 20000 in
theorem gL_acts_X6_cost : GoodIn wsL_acts (wsV RL 66 RX6 yX6_cost wsX6_cost) := goodIn_app (goodIn_of _ (by decide +kernel)) ggL_acts_X6_cost
theorem dL_acts_0 : decode cL_acts 0 = .ok (.iload 4, 2) := by decide +kernel
theorem dL_acts_2 : decode cL_acts 2 = .ok (.iconst 5, 1) := by decide +kernel
theorem dL_acts_3 : decode cL_acts 3 = .ok (.ishr, 1) := by decide +kernel
theorem dL_acts_4 : decode cL_acts 4 = .ok (.ldc 40, 2) := by decide +kernel
theorem dL_acts_6 : decode cL_acts 6 = .ok (.invokestatic 41, 3) := by decide +kernel
theorem dL_acts_9 : decode cL_acts 9 = .ok (.istore 5, 2) := by decide +kernel
theorem dL_acts_11 : decode cL_acts 11 = .ok (.iload 4, 2) := by decide +kernel
theorem dL_acts_13 : decode cL_acts 13 = .ok (.bipush 26, 2) := by decide +kernel
theorem dL_acts_15 : decode cL_acts 15 = .ok (.invokestatic 41, 3) := by decide +kernel
theorem dL_acts_18 : decode cL_acts 18 = .ok (.istore 6, 2) := by decide +kernel
theorem dL_acts_20 : decode cL_acts 20 = .ok (.iload 6, 2) := by decide +kernel
theorem dL_acts_22 : decode cL_acts 22 = .ok (.iconst 5, 1) := by decide +kernel
theorem dL_acts_23 : decode cL_acts 23 = .ok (.if_icmp .ge 27, 3) := by decide +kernel
theorem dL_acts_26 : decode cL_acts 26 = .ok (.aload_n 0, 1) := by decide +kernel
theorem dL_acts_27 : decode cL_acts 27 = .ok (.aload_n 1, 1) := by decide +kernel
theorem dL_acts_28 : decode cL_acts 28 = .ok (.aload_n 2, 1) := by decide +kernel
theorem dL_acts_29 : decode cL_acts 29 = .ok (.aload_n 3, 1) := by decide +kernel
theorem dL_acts_30 : decode cL_acts 30 = .ok (.iload 6, 2) := by decide +kernel
theorem dL_acts_32 : decode cL_acts 32 = .ok (.iconst 2, 1) := by decide +kernel
theorem dL_acts_33 : decode cL_acts 33 = .ok (.if_icmp .ge 7, 3) := by decide +kernel
theorem dL_acts_36 : decode cL_acts 36 = .ok (.iconst 0, 1) := by decide +kernel
theorem dL_acts_37 : decode cL_acts 37 = .ok (.goto 7, 3) := by decide +kernel
theorem dL_acts_40 : decode cL_acts 40 = .ok (.iload 6, 2) := by decide +kernel
theorem dL_acts_42 : decode cL_acts 42 = .ok (.iconst 1, 1) := by decide +kernel
theorem dL_acts_43 : decode cL_acts 43 = .ok (.isub, 1) := by decide +kernel
theorem dL_acts_44 : decode cL_acts 44 = .ok (.iload 5, 2) := by decide +kernel
theorem dL_acts_46 : decode cL_acts 46 = .ok (.invokestatic 47, 3) := by decide +kernel
theorem dL_acts_49 : decode cL_acts 49 = .ok (.ireturn, 1) := by decide +kernel
theorem dL_acts_50 : decode cL_acts 50 = .ok (.iload 6, 2) := by decide +kernel
theorem dL_acts_52 : decode cL_acts 52 = .ok (.bipush 7, 2) := by decide +kernel
theorem dL_acts_54 : decode cL_acts 54 = .ok (.if_icmp .lt 9, 3) := by decide +kernel
theorem dL_acts_57 : decode cL_acts 57 = .ok (.aload_n 1, 1) := by decide +kernel
theorem dL_acts_58 : decode cL_acts 58 = .ok (.iconst 0, 1) := by decide +kernel
theorem dL_acts_59 : decode cL_acts 59 = .ok (.iaload, 1) := by decide +kernel
theorem dL_acts_60 : decode cL_acts 60 = .ok (.ifCond .ne 36, 3) := by decide +kernel
theorem dL_acts_63 : decode cL_acts 63 = .ok (.iload 6, 2) := by decide +kernel
theorem dL_acts_65 : decode cL_acts 65 = .ok (.bipush 6, 2) := by decide +kernel
theorem dL_acts_67 : decode cL_acts 67 = .ok (.if_icmp .ge 15, 3) := by decide +kernel
theorem dL_acts_70 : decode cL_acts 70 = .ok (.aload_n 0, 1) := by decide +kernel
theorem dL_acts_71 : decode cL_acts 71 = .ok (.aload_n 1, 1) := by decide +kernel
theorem dL_acts_72 : decode cL_acts 72 = .ok (.aload_n 2, 1) := by decide +kernel
theorem dL_acts_73 : decode cL_acts 73 = .ok (.aload_n 3, 1) := by decide +kernel
theorem dL_acts_74 : decode cL_acts 74 = .ok (.iload 5, 2) := by decide +kernel
theorem dL_acts_76 : decode cL_acts 76 = .ok (.invokestatic 51, 3) := by decide +kernel
theorem dL_acts_79 : decode cL_acts 79 = .ok (.goto 16, 3) := by decide +kernel
theorem dL_acts_82 : decode cL_acts 82 = .ok (.aload_n 0, 1) := by decide +kernel
theorem dL_acts_83 : decode cL_acts 83 = .ok (.aload_n 1, 1) := by decide +kernel
theorem dL_acts_84 : decode cL_acts 84 = .ok (.aload_n 2, 1) := by decide +kernel
theorem dL_acts_85 : decode cL_acts 85 = .ok (.aload_n 3, 1) := by decide +kernel
theorem dL_acts_86 : decode cL_acts 86 = .ok (.iload 6, 2) := by decide +kernel
theorem dL_acts_88 : decode cL_acts 88 = .ok (.iconst 2, 1) := by decide +kernel
theorem dL_acts_89 : decode cL_acts 89 = .ok (.irem, 1) := by decide +kernel
theorem dL_acts_90 : decode cL_acts 90 = .ok (.iload 5, 2) := by decide +kernel
theorem dL_acts_92 : decode cL_acts 92 = .ok (.invokestatic 47, 3) := by decide +kernel
theorem dL_acts_95 : decode cL_acts 95 = .ok (.ireturn, 1) := by decide +kernel
theorem dL_acts_96 : decode cL_acts 96 = .ok (.iload 5, 2) := by decide +kernel
theorem dL_acts_98 : decode cL_acts 98 = .ok (.aload_n 1, 1) := by decide +kernel
theorem dL_acts_99 : decode cL_acts 99 = .ok (.iconst 0, 1) := by decide +kernel
theorem dL_acts_100 : decode cL_acts 100 = .ok (.iaload, 1) := by decide +kernel
theorem dL_acts_101 : decode cL_acts 101 = .ok (.irem, 1) := by decide +kernel
theorem dL_acts_102 : decode cL_acts 102 = .ok (.istore 7, 2) := by decide +kernel
theorem dL_acts_104 : decode cL_acts 104 = .ok (.iload 6, 2) := by decide +kernel
theorem dL_acts_106 : decode cL_acts 106 = .ok (.bipush 7, 2) := by decide +kernel
theorem dL_acts_108 : decode cL_acts 108 = .ok (.if_icmp .ne 213, 3) := by decide +kernel
theorem dL_acts_111 : decode cL_acts 111 = .ok (.iload 5, 2) := by decide +kernel
theorem dL_acts_113 : decode cL_acts 113 = .ok (.iconst 4, 1) := by decide +kernel
theorem dL_acts_114 : decode cL_acts 114 = .ok (.irem, 1) := by decide +kernel
theorem dL_acts_115 : decode cL_acts 115 = .ok (.ifCond .ne 8, 3) := by decide +kernel
theorem dL_acts_118 : decode cL_acts 118 = .ok (.iload 5, 2) := by decide +kernel
theorem dL_acts_120 : decode cL_acts 120 = .ok (.goto 9, 3) := by decide +kernel
theorem dL_acts_123 : decode cL_acts 123 = .ok (.iload 5, 2) := by decide +kernel
theorem dL_acts_125 : decode cL_acts 125 = .ok (.iconst 4, 1) := by decide +kernel
theorem dL_acts_126 : decode cL_acts 126 = .ok (.idiv, 1) := by decide +kernel
theorem dL_acts_127 : decode cL_acts 127 = .ok (.iconst 5, 1) := by decide +kernel
theorem dL_acts_128 : decode cL_acts 128 = .ok (.irem, 1) := by decide +kernel
theorem dL_acts_129 : decode cL_acts 129 = .ok (.istore 8, 2) := by decide +kernel
theorem dL_acts_131 : decode cL_acts 131 = .ok (.aload_n 3, 1) := by decide +kernel
theorem dL_acts_132 : decode cL_acts 132 = .ok (.iload 7, 2) := by decide +kernel
theorem dL_acts_134 : decode cL_acts 134 = .ok (.iaload, 1) := by decide +kernel
theorem dL_acts_135 : decode cL_acts 135 = .ok (.i2l, 1) := by decide +kernel
theorem dL_acts_136 : decode cL_acts 136 = .ok (.lstore 9, 2) := by decide +kernel
theorem dL_acts_138 : decode cL_acts 138 = .ok (.iconst 0, 1) := by decide +kernel
theorem dL_acts_139 : decode cL_acts 139 = .ok (.istore 11, 2) := by decide +kernel
theorem dL_acts_141 : decode cL_acts 141 = .ok (.iload 11, 2) := by decide +kernel
theorem dL_acts_143 : decode cL_acts 143 = .ok (.aload_n 1, 1) := by decide +kernel
theorem dL_acts_144 : decode cL_acts 144 = .ok (.iconst 1, 1) := by decide +kernel
theorem dL_acts_145 : decode cL_acts 145 = .ok (.iaload, 1) := by decide +kernel
theorem dL_acts_146 : decode cL_acts 146 = .ok (.if_icmp .ge 44, 3) := by decide +kernel
theorem dL_acts_149 : decode cL_acts 149 = .ok (.aload_n 2, 1) := by decide +kernel
theorem dL_acts_150 : decode cL_acts 150 = .ok (.bipush 7, 2) := by decide +kernel
theorem dL_acts_152 : decode cL_acts 152 = .ok (.iload 7, 2) := by decide +kernel
theorem dL_acts_154 : decode cL_acts 154 = .ok (.imul, 1) := by decide +kernel
theorem dL_acts_155 : decode cL_acts 155 = .ok (.iload 11, 2) := by decide +kernel
theorem dL_acts_157 : decode cL_acts 157 = .ok (.iadd, 1) := by decide +kernel
theorem dL_acts_158 : decode cL_acts 158 = .ok (.iaload, 1) := by decide +kernel
theorem dL_acts_159 : decode cL_acts 159 = .ok (.i2l, 1) := by decide +kernel
theorem dL_acts_160 : decode cL_acts 160 = .ok (.lload 9, 2) := by decide +kernel
theorem dL_acts_162 : decode cL_acts 162 = .ok (.lcmp, 1) := by decide +kernel
theorem dL_acts_163 : decode cL_acts 163 = .ok (.ifCond .le 17, 3) := by decide +kernel
theorem dL_acts_166 : decode cL_acts 166 = .ok (.aload_n 2, 1) := by decide +kernel
theorem dL_acts_167 : decode cL_acts 167 = .ok (.bipush 7, 2) := by decide +kernel
theorem dL_acts_169 : decode cL_acts 169 = .ok (.iload 7, 2) := by decide +kernel
theorem dL_acts_171 : decode cL_acts 171 = .ok (.imul, 1) := by decide +kernel
theorem dL_acts_172 : decode cL_acts 172 = .ok (.iload 11, 2) := by decide +kernel
theorem dL_acts_174 : decode cL_acts 174 = .ok (.iadd, 1) := by decide +kernel
theorem dL_acts_175 : decode cL_acts 175 = .ok (.iaload, 1) := by decide +kernel
theorem dL_acts_176 : decode cL_acts 176 = .ok (.i2l, 1) := by decide +kernel
theorem dL_acts_177 : decode cL_acts 177 = .ok (.goto 5, 3) := by decide +kernel
theorem dL_acts_180 : decode cL_acts 180 = .ok (.lload 9, 2) := by decide +kernel
theorem dL_acts_182 : decode cL_acts 182 = .ok (.lstore 9, 2) := by decide +kernel
theorem dL_acts_184 : decode cL_acts 184 = .ok (.iinc 11 1, 3) := by decide +kernel
theorem dL_acts_187 : decode cL_acts 187 = .ok (.goto (-46), 3) := by decide +kernel
theorem dL_acts_190 : decode cL_acts 190 = .ok (.lload 9, 2) := by decide +kernel
theorem dL_acts_192 : decode cL_acts 192 = .ok (.iload 8, 2) := by decide +kernel
theorem dL_acts_194 : decode cL_acts 194 = .ok (.i2l, 1) := by decide +kernel
theorem dL_acts_195 : decode cL_acts 195 = .ok (.lmul, 1) := by decide +kernel
theorem dL_acts_196 : decode cL_acts 196 = .ok (.ldc2_w 55, 3) := by decide +kernel
theorem dL_acts_199 : decode cL_acts 199 = .ok (.lcmp, 1) := by decide +kernel
theorem dL_acts_200 : decode cL_acts 200 = .ok (.ifCond .le 22, 3) := by decide +kernel
theorem dL_acts_203 : decode cL_acts 203 = .ok (.aload_n 0, 1) := by decide +kernel
theorem dL_acts_204 : decode cL_acts 204 = .ok (.iload 7, 2) := by decide +kernel
theorem dL_acts_206 : decode cL_acts 206 = .ok (.iload 8, 2) := by decide +kernel
theorem dL_acts_208 : decode cL_acts 208 = .ok (.invokevirtual 57, 3) := by decide +kernel
theorem dL_acts_211 : decode cL_acts 211 = .ok (.bipush (-3), 2) := by decide +kernel
theorem dL_acts_213 : decode cL_acts 213 = .ok (.if_icmp .ne 7, 3) := by decide +kernel
theorem dL_acts_216 : decode cL_acts 216 = .ok (.iconst 1, 1) := by decide +kernel
theorem dL_acts_217 : decode cL_acts 217 = .ok (.goto 4, 3) := by decide +kernel
theorem dL_acts_220 : decode cL_acts 220 = .ok (.iconst 0, 1) := by decide +kernel
theorem dL_acts_221 : decode cL_acts 221 = .ok (.ireturn, 1) := by decide +kernel
theorem dL_acts_222 : decode cL_acts 222 = .ok (.aload_n 3, 1) := by decide +kernel
theorem dL_acts_223 : decode cL_acts 223 = .ok (.iload 7, 2) := by decide +kernel
theorem dL_acts_225 : decode cL_acts 225 = .ok (.aload_n 3, 1) := by decide +kernel
theorem dL_acts_226 : decode cL_acts 226 = .ok (.iload 7, 2) := by decide +kernel
theorem dL_acts_228 : decode cL_acts 228 = .ok (.iaload, 1) := by decide +kernel
theorem dL_acts_229 : decode cL_acts 229 = .ok (.i2l, 1) := by decide +kernel
theorem dL_acts_230 : decode cL_acts 230 = .ok (.iload 8, 2) := by decide +kernel
theorem dL_acts_232 : decode cL_acts 232 = .ok (.i2l, 1) := by decide +kernel
theorem dL_acts_233 : decode cL_acts 233 = .ok (.lmul, 1) := by decide +kernel
theorem dL_acts_234 : decode cL_acts 234 = .ok (.l2i, 1) := by decide +kernel
theorem dL_acts_235 : decode cL_acts 235 = .ok (.iastore, 1) := by decide +kernel
theorem dL_acts_236 : decode cL_acts 236 = .ok (.iconst 0, 1) := by decide +kernel
theorem dL_acts_237 : decode cL_acts 237 = .ok (.istore 11, 2) := by decide +kernel
theorem dL_acts_239 : decode cL_acts 239 = .ok (.iload 11, 2) := by decide +kernel
theorem dL_acts_241 : decode cL_acts 241 = .ok (.aload_n 1, 1) := by decide +kernel
theorem dL_acts_242 : decode cL_acts 242 = .ok (.iconst 1, 1) := by decide +kernel
theorem dL_acts_243 : decode cL_acts 243 = .ok (.iaload, 1) := by decide +kernel
theorem dL_acts_244 : decode cL_acts 244 = .ok (.if_icmp .ge 52, 3) := by decide +kernel
theorem dL_acts_247 : decode cL_acts 247 = .ok (.aload_n 2, 1) := by decide +kernel
theorem dL_acts_248 : decode cL_acts 248 = .ok (.bipush 7, 2) := by decide +kernel
theorem dL_acts_250 : decode cL_acts 250 = .ok (.iload 7, 2) := by decide +kernel
theorem dL_acts_252 : decode cL_acts 252 = .ok (.imul, 1) := by decide +kernel
theorem dL_acts_253 : decode cL_acts 253 = .ok (.iload 11, 2) := by decide +kernel
theorem dL_acts_255 : decode cL_acts 255 = .ok (.iadd, 1) := by decide +kernel
theorem dL_acts_256 : decode cL_acts 256 = .ok (.aload_n 2, 1) := by decide +kernel
theorem dL_acts_257 : decode cL_acts 257 = .ok (.bipush 7, 2) := by decide +kernel
theorem dL_acts_259 : decode cL_acts 259 = .ok (.iload 7, 2) := by decide +kernel
theorem dL_acts_261 : decode cL_acts 261 = .ok (.imul, 1) := by decide +kernel
theorem dL_acts_262 : decode cL_acts 262 = .ok (.iload 11, 2) := by decide +kernel
theorem dL_acts_264 : decode cL_acts 264 = .ok (.iadd, 1) := by decide +kernel
theorem dL_acts_265 : decode cL_acts 265 = .ok (.iaload, 1) := by decide +kernel
theorem dL_acts_266 : decode cL_acts 266 = .ok (.ifCond .ge 7, 3) := by decide +kernel
theorem dL_acts_269 : decode cL_acts 269 = .ok (.iconst (-1), 1) := by decide +kernel
theorem dL_acts_270 : decode cL_acts 270 = .ok (.goto 19, 3) := by decide +kernel
theorem dL_acts_273 : decode cL_acts 273 = .ok (.aload_n 2, 1) := by decide +kernel
theorem dL_acts_274 : decode cL_acts 274 = .ok (.bipush 7, 2) := by decide +kernel
theorem dL_acts_276 : decode cL_acts 276 = .ok (.iload 7, 2) := by decide +kernel
theorem dL_acts_278 : decode cL_acts 278 = .ok (.imul, 1) := by decide +kernel
theorem dL_acts_279 : decode cL_acts 279 = .ok (.iload 11, 2) := by decide +kernel
theorem dL_acts_281 : decode cL_acts 281 = .ok (.iadd, 1) := by decide +kernel
theorem dL_acts_282 : decode cL_acts 282 = .ok (.iaload, 1) := by decide +kernel
theorem dL_acts_283 : decode cL_acts 283 = .ok (.i2l, 1) := by decide +kernel
theorem dL_acts_284 : decode cL_acts 284 = .ok (.iload 8, 2) := by decide +kernel
theorem dL_acts_286 : decode cL_acts 286 = .ok (.i2l, 1) := by decide +kernel
theorem dL_acts_287 : decode cL_acts 287 = .ok (.lmul, 1) := by decide +kernel
theorem dL_acts_288 : decode cL_acts 288 = .ok (.l2i, 1) := by decide +kernel
theorem dL_acts_289 : decode cL_acts 289 = .ok (.iastore, 1) := by decide +kernel
theorem dL_acts_290 : decode cL_acts 290 = .ok (.iinc 11 1, 3) := by decide +kernel
theorem dL_acts_293 : decode cL_acts 293 = .ok (.goto (-54), 3) := by decide +kernel
theorem dL_acts_296 : decode cL_acts 296 = .ok (.aload_n 0, 1) := by decide +kernel
theorem dL_acts_297 : decode cL_acts 297 = .ok (.iload 7, 2) := by decide +kernel
theorem dL_acts_299 : decode cL_acts 299 = .ok (.iload 8, 2) := by decide +kernel
theorem dL_acts_301 : decode cL_acts 301 = .ok (.invokevirtual 57, 3) := by decide +kernel
theorem dL_acts_304 : decode cL_acts 304 = .ok (.i2l, 1) := by decide +kernel
theorem dL_acts_305 : decode cL_acts 305 = .ok (.lload 9, 2) := by decide +kernel
theorem dL_acts_307 : decode cL_acts 307 = .ok (.iload 8, 2) := by decide +kernel
theorem dL_acts_309 : decode cL_acts 309 = .ok (.i2l, 1) := by decide +kernel
theorem dL_acts_310 : decode cL_acts 310 = .ok (.lmul, 1) := by decide +kernel
theorem dL_acts_311 : decode cL_acts 311 = .ok (.lcmp, 1) := by decide +kernel
theorem dL_acts_312 : decode cL_acts 312 = .ok (.ifCond .ne 7, 3) := by decide +kernel
theorem dL_acts_315 : decode cL_acts 315 = .ok (.iconst 1, 1) := by decide +kernel
theorem dL_acts_316 : decode cL_acts 316 = .ok (.goto 4, 3) := by decide +kernel
theorem dL_acts_319 : decode cL_acts 319 = .ok (.iconst 0, 1) := by decide +kernel
theorem dL_acts_320 : decode cL_acts 320 = .ok (.ireturn, 1) := by decide +kernel
theorem dL_acts_321 : decode cL_acts 321 = .ok (.iload 6, 2) := by decide +kernel
theorem dL_acts_323 : decode cL_acts 323 = .ok (.bipush 10, 2) := by decide +kernel
theorem dL_acts_325 : decode cL_acts 325 = .ok (.if_icmp .lt 9, 3) := by decide +kernel
theorem dL_acts_328 : decode cL_acts 328 = .ok (.aload_n 1, 1) := by decide +kernel
theorem dL_acts_329 : decode cL_acts 329 = .ok (.iconst 1, 1) := by decide +kernel
theorem dL_acts_330 : decode cL_acts 330 = .ok (.iaload, 1) := by decide +kernel
theorem dL_acts_331 : decode cL_acts 331 = .ok (.ifCond .ne 55, 3) := by decide +kernel
theorem dL_acts_334 : decode cL_acts 334 = .ok (.aload_n 3, 1) := by decide +kernel
theorem dL_acts_335 : decode cL_acts 335 = .ok (.iload 7, 2) := by decide +kernel
theorem dL_acts_337 : decode cL_acts 337 = .ok (.iaload, 1) := by decide +kernel
theorem dL_acts_338 : decode cL_acts 338 = .ok (.istore 8, 2) := by decide +kernel
theorem dL_acts_340 : decode cL_acts 340 = .ok (.aload_n 3, 1) := by decide +kernel
theorem dL_acts_341 : decode cL_acts 341 = .ok (.iload 7, 2) := by decide +kernel
theorem dL_acts_343 : decode cL_acts 343 = .ok (.iload 5, 2) := by decide +kernel
theorem dL_acts_345 : decode cL_acts 345 = .ok (.bipush 7, 2) := by decide +kernel
theorem dL_acts_347 : decode cL_acts 347 = .ok (.idiv, 1) := by decide +kernel
theorem dL_acts_348 : decode cL_acts 348 = .ok (.iload 5, 2) := by decide +kernel
theorem dL_acts_350 : decode cL_acts 350 = .ok (.iconst 3, 1) := by decide +kernel
theorem dL_acts_351 : decode cL_acts 351 = .ok (.irem, 1) := by decide +kernel
theorem dL_acts_352 : decode cL_acts 352 = .ok (.ifCond .ne 9, 3) := by decide +kernel
theorem dL_acts_355 : decode cL_acts 355 = .ok (.sipush 10000, 3) := by decide +kernel
theorem dL_acts_358 : decode cL_acts 358 = .ok (.goto 5, 3) := by decide +kernel
theorem dL_acts_361 : decode cL_acts 361 = .ok (.bipush 20, 2) := by decide +kernel
theorem dL_acts_363 : decode cL_acts 363 = .ok (.irem, 1) := by decide +kernel
theorem dL_acts_364 : decode cL_acts 364 = .ok (.iastore, 1) := by decide +kernel
theorem dL_acts_365 : decode cL_acts 365 = .ok (.aload_n 0, 1) := by decide +kernel
theorem dL_acts_366 : decode cL_acts 366 = .ok (.iload 7, 2) := by decide +kernel
theorem dL_acts_368 : decode cL_acts 368 = .ok (.aload_n 3, 1) := by decide +kernel
theorem dL_acts_369 : decode cL_acts 369 = .ok (.iload 7, 2) := by decide +kernel
theorem dL_acts_371 : decode cL_acts 371 = .ok (.iaload, 1) := by decide +kernel
theorem dL_acts_372 : decode cL_acts 372 = .ok (.invokevirtual 60, 3) := by decide +kernel
theorem dL_acts_375 : decode cL_acts 375 = .ok (.iload 8, 2) := by decide +kernel
theorem dL_acts_377 : decode cL_acts 377 = .ok (.if_icmp .ne 7, 3) := by decide +kernel
theorem dL_acts_380 : decode cL_acts 380 = .ok (.iconst 1, 1) := by decide +kernel
theorem dL_acts_381 : decode cL_acts 381 = .ok (.goto 4, 3) := by decide +kernel
theorem dL_acts_384 : decode cL_acts 384 = .ok (.iconst 0, 1) := by decide +kernel
theorem dL_acts_385 : decode cL_acts 385 = .ok (.ireturn, 1) := by decide +kernel
theorem dL_acts_386 : decode cL_acts 386 = .ok (.iload 5, 2) := by decide +kernel
theorem dL_acts_388 : decode cL_acts 388 = .ok (.bipush 7, 2) := by decide +kernel
theorem dL_acts_390 : decode cL_acts 390 = .ok (.idiv, 1) := by decide +kernel
theorem dL_acts_391 : decode cL_acts 391 = .ok (.aload_n 1, 1) := by decide +kernel
theorem dL_acts_392 : decode cL_acts 392 = .ok (.iconst 1, 1) := by decide +kernel
theorem dL_acts_393 : decode cL_acts 393 = .ok (.iaload, 1) := by decide +kernel
theorem dL_acts_394 : decode cL_acts 394 = .ok (.irem, 1) := by decide +kernel
theorem dL_acts_395 : decode cL_acts 395 = .ok (.istore 8, 2) := by decide +kernel
theorem dL_acts_397 : decode cL_acts 397 = .ok (.aload_n 0, 1) := by decide +kernel
theorem dL_acts_398 : decode cL_acts 398 = .ok (.invokevirtual 22, 3) := by decide +kernel
theorem dL_acts_401 : decode cL_acts 401 = .ok (.istore 9, 2) := by decide +kernel
theorem dL_acts_403 : decode cL_acts 403 = .ok (.iload 6, 2) := by decide +kernel
theorem dL_acts_405 : decode cL_acts 405 = .ok (.bipush 14, 2) := by decide +kernel
theorem dL_acts_407 : decode cL_acts 407 = .ok (.if_icmp .ge 79, 3) := by decide +kernel
theorem dL_acts_410 : decode cL_acts 410 = .ok (.aload_n 2, 1) := by decide +kernel
theorem dL_acts_411 : decode cL_acts 411 = .ok (.bipush 7, 2) := by decide +kernel
theorem dL_acts_413 : decode cL_acts 413 = .ok (.iload 7, 2) := by decide +kernel
theorem dL_acts_415 : decode cL_acts 415 = .ok (.imul, 1) := by decide +kernel
theorem dL_acts_416 : decode cL_acts 416 = .ok (.iload 8, 2) := by decide +kernel
theorem dL_acts_418 : decode cL_acts 418 = .ok (.iadd, 1) := by decide +kernel
theorem dL_acts_419 : decode cL_acts 419 = .ok (.iaload, 1) := by decide +kernel
theorem dL_acts_420 : decode cL_acts 420 = .ok (.ifCond .ge 22, 3) := by decide +kernel
theorem dL_acts_423 : decode cL_acts 423 = .ok (.aload_n 0, 1) := by decide +kernel
theorem dL_acts_424 : decode cL_acts 424 = .ok (.iload 7, 2) := by decide +kernel
theorem dL_acts_426 : decode cL_acts 426 = .ok (.iload 8, 2) := by decide +kernel
theorem dL_acts_428 : decode cL_acts 428 = .ok (.invokevirtual 63, 3) := by decide +kernel
theorem dL_acts_431 : decode cL_acts 431 = .ok (.bipush (-2), 2) := by decide +kernel
theorem dL_acts_433 : decode cL_acts 433 = .ok (.if_icmp .ne 7, 3) := by decide +kernel
theorem dL_acts_436 : decode cL_acts 436 = .ok (.iconst 1, 1) := by decide +kernel
theorem dL_acts_437 : decode cL_acts 437 = .ok (.goto 4, 3) := by decide +kernel
theorem dL_acts_440 : decode cL_acts 440 = .ok (.iconst 0, 1) := by decide +kernel
theorem dL_acts_441 : decode cL_acts 441 = .ok (.ireturn, 1) := by decide +kernel
theorem dL_acts_442 : decode cL_acts 442 = .ok (.aload_n 2, 1) := by decide +kernel
theorem dL_acts_443 : decode cL_acts 443 = .ok (.bipush 7, 2) := by decide +kernel
theorem dL_acts_445 : decode cL_acts 445 = .ok (.iload 7, 2) := by decide +kernel
theorem dL_acts_447 : decode cL_acts 447 = .ok (.imul, 1) := by decide +kernel
theorem dL_acts_448 : decode cL_acts 448 = .ok (.iload 8, 2) := by decide +kernel
theorem dL_acts_450 : decode cL_acts 450 = .ok (.iadd, 1) := by decide +kernel
theorem dL_acts_451 : decode cL_acts 451 = .ok (.iconst (-1), 1) := by decide +kernel
theorem dL_acts_452 : decode cL_acts 452 = .ok (.iastore, 1) := by decide +kernel
theorem dL_acts_453 : decode cL_acts 453 = .ok (.aload_n 0, 1) := by decide +kernel
theorem dL_acts_454 : decode cL_acts 454 = .ok (.iload 7, 2) := by decide +kernel
theorem dL_acts_456 : decode cL_acts 456 = .ok (.iload 8, 2) := by decide +kernel
theorem dL_acts_458 : decode cL_acts 458 = .ok (.invokevirtual 63, 3) := by decide +kernel
theorem dL_acts_461 : decode cL_acts 461 = .ok (.istore 10, 2) := by decide +kernel
theorem dL_acts_463 : decode cL_acts 463 = .ok (.iload 10, 2) := by decide +kernel
theorem dL_acts_465 : decode cL_acts 465 = .ok (.ifCond .lt 19, 3) := by decide +kernel
theorem dL_acts_468 : decode cL_acts 468 = .ok (.iload 10, 2) := by decide +kernel
theorem dL_acts_470 : decode cL_acts 470 = .ok (.aload_n 0, 1) := by decide +kernel
theorem dL_acts_471 : decode cL_acts 471 = .ok (.invokevirtual 22, 3) := by decide +kernel
theorem dL_acts_474 : decode cL_acts 474 = .ok (.iload 9, 2) := by decide +kernel
theorem dL_acts_476 : decode cL_acts 476 = .ok (.isub, 1) := by decide +kernel
theorem dL_acts_477 : decode cL_acts 477 = .ok (.if_icmp .ne 7, 3) := by decide +kernel
theorem dL_acts_480 : decode cL_acts 480 = .ok (.iconst 1, 1) := by decide +kernel
theorem dL_acts_481 : decode cL_acts 481 = .ok (.goto 4, 3) := by decide +kernel
theorem dL_acts_484 : decode cL_acts 484 = .ok (.iconst 0, 1) := by decide +kernel
theorem dL_acts_485 : decode cL_acts 485 = .ok (.ireturn, 1) := by decide +kernel
theorem dL_acts_486 : decode cL_acts 486 = .ok (.iload 5, 2) := by decide +kernel
theorem dL_acts_488 : decode cL_acts 488 = .ok (.bipush 49, 2) := by decide +kernel
theorem dL_acts_490 : decode cL_acts 490 = .ok (.idiv, 1) := by decide +kernel
theorem dL_acts_491 : decode cL_acts 491 = .ok (.iload 5, 2) := by decide +kernel
theorem dL_acts_493 : decode cL_acts 493 = .ok (.iconst 4, 1) := by decide +kernel
theorem dL_acts_494 : decode cL_acts 494 = .ok (.irem, 1) := by decide +kernel
theorem dL_acts_495 : decode cL_acts 495 = .ok (.ifCond .ne 9, 3) := by decide +kernel
theorem dL_acts_498 : decode cL_acts 498 = .ok (.sipush 10000, 3) := by decide +kernel
theorem dL_acts_501 : decode cL_acts 501 = .ok (.goto 5, 3) := by decide +kernel
theorem dL_acts_504 : decode cL_acts 504 = .ok (.bipush 16, 2) := by decide +kernel
theorem dL_acts_506 : decode cL_acts 506 = .ok (.irem, 1) := by decide +kernel
theorem dL_acts_507 : decode cL_acts 507 = .ok (.istore 10, 2) := by decide +kernel
theorem dL_acts_509 : decode cL_acts 509 = .ok (.aload_n 2, 1) := by decide +kernel
theorem dL_acts_510 : decode cL_acts 510 = .ok (.bipush 7, 2) := by decide +kernel
theorem dL_acts_512 : decode cL_acts 512 = .ok (.iload 7, 2) := by decide +kernel
theorem dL_acts_514 : decode cL_acts 514 = .ok (.imul, 1) := by decide +kernel
theorem dL_acts_515 : decode cL_acts 515 = .ok (.iload 8, 2) := by decide +kernel
theorem dL_acts_517 : decode cL_acts 517 = .ok (.iadd, 1) := by decide +kernel
theorem dL_acts_518 : decode cL_acts 518 = .ok (.iload 10, 2) := by decide +kernel
theorem dL_acts_520 : decode cL_acts 520 = .ok (.iastore, 1) := by decide +kernel
theorem dL_acts_521 : decode cL_acts 521 = .ok (.aload_n 0, 1) := by decide +kernel
theorem dL_acts_522 : decode cL_acts 522 = .ok (.iload 7, 2) := by decide +kernel
theorem dL_acts_524 : decode cL_acts 524 = .ok (.iload 8, 2) := by decide +kernel
theorem dL_acts_526 : decode cL_acts 526 = .ok (.iload 10, 2) := by decide +kernel
theorem dL_acts_528 : decode cL_acts 528 = .ok (.invokevirtual 66, 3) := by decide +kernel
theorem dL_acts_531 : decode cL_acts 531 = .ok (.istore 11, 2) := by decide +kernel
theorem dL_acts_533 : decode cL_acts 533 = .ok (.iload 11, 2) := by decide +kernel
theorem dL_acts_535 : decode cL_acts 535 = .ok (.ldc 70, 2) := by decide +kernel
theorem dL_acts_537 : decode cL_acts 537 = .ok (.aload_n 0, 1) := by decide +kernel
theorem dL_acts_538 : decode cL_acts 538 = .ok (.invokevirtual 22, 3) := by decide +kernel
theorem dL_acts_541 : decode cL_acts 541 = .ok (.iadd, 1) := by decide +kernel
theorem dL_acts_542 : decode cL_acts 542 = .ok (.iload 9, 2) := by decide +kernel
theorem dL_acts_544 : decode cL_acts 544 = .ok (.isub, 1) := by decide +kernel
theorem dL_acts_545 : decode cL_acts 545 = .ok (.if_icmp .ne 7, 3) := by decide +kernel
theorem dL_acts_548 : decode cL_acts 548 = .ok (.iconst 1, 1) := by decide +kernel
theorem dL_acts_549 : decode cL_acts 549 = .ok (.goto 4, 3) := by decide +kernel
theorem dL_acts_552 : decode cL_acts 552 = .ok (.iconst 0, 1) := by decide +kernel
theorem dL_acts_553 : decode cL_acts 553 = .ok (.ireturn, 1) := by decide +kernel
