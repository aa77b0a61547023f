theorem dL_cell_0 : decode cL_cell 0 = .ok (.iload_n 1, 1) := by decide +kernel
theorem dL_cell_1 : decode cL_cell 1 = .ok (.aload_n 0, 1) := by decide +kernel
theorem dL_cell_2 : decode cL_cell 2 = .ok (.arraylength, 1) := by decide +kernel
theorem dL_cell_3 : decode cL_cell 3 = .ok (.if_icmp .ge 9, 3) := by decide +kernel
theorem dL_cell_6 : decode cL_cell 6 = .ok (.aload_n 0, 1) := by decide +kernel
theorem dL_cell_7 : decode cL_cell 7 = .ok (.iload_n 1, 1) := by decide +kernel
theorem dL_cell_8 : decode cL_cell 8 = .ok (.iaload, 1) := by decide +kernel
theorem dL_cell_9 : decode cL_cell 9 = .ok (.goto 9, 3) := by decide +kernel
theorem dL_cell_12 : decode cL_cell 12 = .ok (.ldc 7, 2) := by decide +kernel
theorem dL_cell_14 : decode cL_cell 14 = .ok (.iload_n 1, 1) := by decide +kernel
theorem dL_cell_15 : decode cL_cell 15 = .ok (.iconst 3, 1) := by decide +kernel
theorem dL_cell_16 : decode cL_cell 16 = .ok (.iadd, 1) := by decide +kernel
theorem dL_cell_17 : decode cL_cell 17 = .ok (.imul, 1) := by decide +kernel
theorem dL_cell_18 : decode cL_cell 18 = .ok (.ireturn, 1) := by decide +kernel
theorem dL_low_0 : decode cL_low 0 = .ok (.iload_n 0, 1) := by decide +kernel
theorem dL_low_1 : decode cL_low 1 = .ok (.ldc 8, 2) := by decide +kernel
theorem dL_low_3 : decode cL_low 3 = .ok (.iand, 1) := by decide +kernel
theorem dL_low_4 : decode cL_low 4 = .ok (.iload_n 1, 1) := by decide +kernel
theorem dL_low_5 : decode cL_low 5 = .ok (.irem, 1) := by decide +kernel
theorem dL_low_6 : decode cL_low 6 = .ok (.ireturn, 1) := by decide +kernel
set_option maxRecDepth 20000 in
theorem ggL_reads_X6_clearText : GoodIn wsL_reads wsX6_clearText := goodIn_r _ [5, 6, 7, 137, 138, 139, 140, 141, 142, 143, 144] (by decide +kernel) (by decide +kernel)
set_option maxRecDepth 20000 in
theorem gL_reads_X6_clearText : GoodIn wsL_reads (wsV RL 9 RX6 yX6_clearText wsX6_clearText) := goodIn_app (goodIn_of _ (by decide +kernel)) ggL_reads_X6_clearText
set_option maxRecDepth 20000 in
theorem ggL_reads_X6_type : GoodIn wsL_reads wsX6_type := goodIn_r _ [11, 6, 7, 12, 13, 14, 15, 16, 17, 18, 137, 138, 139, 140, 141, 142, 143, 144] (by decide +kernel) (by decide +kernel)
set_option maxRecDepth 20000 in
theorem gL_reads_X6_type : GoodIn wsL_reads (wsV RL 15 RX6 yX6_type wsX6_type) := goodIn_app (goodIn_of _ (by decide +kernel)) ggL_reads_X6_type
set_option maxRecDepth 20000 in
theorem ggL_reads_X6_read : GoodIn wsL_reads wsX6_read := goodIn_r _ [22, 23, 24, 25, 26, 27, 28, 29, 30, 31, 32, 33, 34, 35, 36, 37, 38, 39, 40, 41, 42, 43, 44, 45, 46, 47, 48, 49, 50, 51, 52, 53, 54, 55, 56, 57, 15, 58, 18, 17, 59, 60, 61, 62, 63, 64, 65, 66, 67, 68, 69, 70, 71, 72, 73, 74, 75, 76, 77, 78, 79, 80, 81, 82, 83, 84, 85, 86, 87, 88, 89, 90, 91, 92, 93, 94, 95, 96, 97, 98, 99, 100, 101, 102, 103, 104, 105, 106, 107, 108, 109, 110, 111, 112, 113, 114, 115, 116, 117, 118, 119, 120, 121, 122, 123, 124, 125, 126, 127, 137, 138, 139, 140, 141, 142, 145, 146, 147, 148, 149, 150, 151, 152, 143, 144, 153, 154, 155, 156, 157, 158] (by decide +kernel) (by decide +kernel)
set_option maxRecDepth 20000 in
theorem gL_reads_X6_read : GoodIn wsL_reads (wsV RL 19 RX6 yX6_read wsX6_read) := goodIn_app (goodIn_of _ (by decide +kernel)) ggL_reads_X6_read
set_option maxRecDepth 20000 in
theorem ggL_reads_X6_total : GoodIn wsL_reads wsX6_total := goodIn_r _ [131, 28, 92, 93, 94, 95, 96, 97, 98, 99, 100, 85, 101, 87, 102, 103, 104, 105, 106, 107, 108, 109, 110, 111, 112, 113, 114, 115, 116, 117, 118, 119, 120, 121, 122, 123, 124, 125, 126, 127, 137, 138, 139, 140, 141, 142, 155, 156, 157, 158, 149, 150, 151, 152] (by decide +kernel) (by decide +kernel)
set_option maxRecDepth 20000 in
theorem gL_reads_X6_total : GoodIn wsL_reads (wsV RL 22 RX6 yX6_total wsX6_total) := goodIn_app (goodIn_of _ (by decide +kernel)) ggL_reads_X6_total
set_option maxRecDepth 20000 in
theorem ggL_reads_X6_fault : GoodIn wsL_reads wsX6_fault := goodIn_r _ [135, 23, 24, 136, 29, 30, 31, 32, 33, 34, 35, 36, 37, 38, 39, 40, 41, 42, 43, 44, 45, 46, 47, 48, 49, 50, 51, 52, 53, 54, 55, 56, 57, 15, 58, 18, 17, 59, 60, 61, 62, 63, 64, 65, 66, 67, 68, 69, 70, 137, 138, 139, 140, 141, 142, 145, 146, 147, 148, 149, 150, 151, 152, 143, 144] (by decide +kernel) (by decide +kernel)
set_option maxRecDepth 20000 in
theorem gL_reads_X6_fault : GoodIn wsL_reads (wsV RL 25 RX6 yX6_fault wsX6_fault) := goodIn_app (goodIn_of _ (by decide +kernel)) ggL_reads_X6_fault
theorem dL_reads_0 : decode cL_reads 0 = .ok (.iconst 1, 1) := by decide +kernel
theorem dL_reads_1 : decode cL_reads 1 = .ok (.iload 4, 2) := by decide +kernel
theorem dL_reads_3 : decode cL_reads 3 = .ok (.iconst 4, 1) := by decide +kernel
theorem dL_reads_4 : decode cL_reads 4 = .ok (.irem, 1) := by decide +kernel
theorem dL_reads_5 : decode cL_reads 5 = .ok (.iadd, 1) := by decide +kernel
theorem dL_reads_6 : decode cL_reads 6 = .ok (.istore 5, 2) := by decide +kernel
theorem dL_reads_8 : decode cL_reads 8 = .ok (.iconst 1, 1) := by decide +kernel
theorem dL_reads_9 : decode cL_reads 9 = .ok (.iload 4, 2) := by decide +kernel
theorem dL_reads_11 : decode cL_reads 11 = .ok (.iconst 4, 1) := by decide +kernel
theorem dL_reads_12 : decode cL_reads 12 = .ok (.idiv, 1) := by decide +kernel
theorem dL_reads_13 : decode cL_reads 13 = .ok (.iconst 3, 1) := by decide +kernel
theorem dL_reads_14 : decode cL_reads 14 = .ok (.irem, 1) := by decide +kernel
theorem dL_reads_15 : decode cL_reads 15 = .ok (.iadd, 1) := by decide +kernel
theorem dL_reads_16 : decode cL_reads 16 = .ok (.istore 6, 2) := by decide +kernel
theorem dL_reads_18 : decode cL_reads 18 = .ok (.aload_n 0, 1) := by decide +kernel
theorem dL_reads_19 : decode cL_reads 19 = .ok (.invokevirtual 9, 3) := by decide +kernel
theorem dL_reads_22 : decode cL_reads 22 = .ok (.ifCond .lt 7, 3) := by decide +kernel
theorem dL_reads_25 : decode cL_reads 25 = .ok (.iconst 1, 1) := by decide +kernel
theorem dL_reads_26 : decode cL_reads 26 = .ok (.goto 4, 3) := by decide +kernel
theorem dL_reads_29 : decode cL_reads 29 = .ok (.iconst 0, 1) := by decide +kernel
theorem dL_reads_30 : decode cL_reads 30 = .ok (.istore 7, 2) := by decide +kernel
theorem dL_reads_32 : decode cL_reads 32 = .ok (.iconst 0, 1) := by decide +kernel
theorem dL_reads_33 : decode cL_reads 33 = .ok (.istore 8, 2) := by decide +kernel
theorem dL_reads_35 : decode cL_reads 35 = .ok (.iload 8, 2) := by decide +kernel
theorem dL_reads_37 : decode cL_reads 37 = .ok (.iload 5, 2) := by decide +kernel
theorem dL_reads_39 : decode cL_reads 39 = .ok (.iload 6, 2) := by decide +kernel
theorem dL_reads_41 : decode cL_reads 41 = .ok (.iconst 1, 1) := by decide +kernel
theorem dL_reads_42 : decode cL_reads 42 = .ok (.iadd, 1) := by decide +kernel
theorem dL_reads_43 : decode cL_reads 43 = .ok (.imul, 1) := by decide +kernel
theorem dL_reads_44 : decode cL_reads 44 = .ok (.if_icmp .ge 285, 3) := by decide +kernel
theorem dL_reads_47 : decode cL_reads 47 = .ok (.iload 8, 2) := by decide +kernel
theorem dL_reads_49 : decode cL_reads 49 = .ok (.iload 6, 2) := by decide +kernel
theorem dL_reads_51 : decode cL_reads 51 = .ok (.iconst 1, 1) := by decide +kernel
theorem dL_reads_52 : decode cL_reads 52 = .ok (.iadd, 1) := by decide +kernel
theorem dL_reads_53 : decode cL_reads 53 = .ok (.idiv, 1) := by decide +kernel
theorem dL_reads_54 : decode cL_reads 54 = .ok (.istore 9, 2) := by decide +kernel
theorem dL_reads_56 : decode cL_reads 56 = .ok (.iload 8, 2) := by decide +kernel
theorem dL_reads_58 : decode cL_reads 58 = .ok (.iload 6, 2) := by decide +kernel
theorem dL_reads_60 : decode cL_reads 60 = .ok (.iconst 1, 1) := by decide +kernel
theorem dL_reads_61 : decode cL_reads 61 = .ok (.iadd, 1) := by decide +kernel
theorem dL_reads_62 : decode cL_reads 62 = .ok (.irem, 1) := by decide +kernel
theorem dL_reads_63 : decode cL_reads 63 = .ok (.istore 10, 2) := by decide +kernel
theorem dL_reads_65 : decode cL_reads 65 = .ok (.iload 4, 2) := by decide +kernel
theorem dL_reads_67 : decode cL_reads 67 = .ok (.iconst 1, 1) := by decide +kernel
theorem dL_reads_68 : decode cL_reads 68 = .ok (.iload 8, 2) := by decide +kernel
theorem dL_reads_70 : decode cL_reads 70 = .ok (.iadd, 1) := by decide +kernel
theorem dL_reads_71 : decode cL_reads 71 = .ok (.idiv, 1) := by decide +kernel
theorem dL_reads_72 : decode cL_reads 72 = .ok (.bipush 7, 2) := by decide +kernel
theorem dL_reads_74 : decode cL_reads 74 = .ok (.iload 8, 2) := by decide +kernel
theorem dL_reads_76 : decode cL_reads 76 = .ok (.imul, 1) := by decide +kernel
theorem dL_reads_77 : decode cL_reads 77 = .ok (.iadd, 1) := by decide +kernel
theorem dL_reads_78 : decode cL_reads 78 = .ok (.iload 4, 2) := by decide +kernel
theorem dL_reads_80 : decode cL_reads 80 = .ok (.iconst 3, 1) := by decide +kernel
theorem dL_reads_81 : decode cL_reads 81 = .ok (.irem, 1) := by decide +kernel
theorem dL_reads_82 : decode cL_reads 82 = .ok (.ifCond .ne 9, 3) := by decide +kernel
theorem dL_reads_85 : decode cL_reads 85 = .ok (.sipush 1000, 3) := by decide +kernel
theorem dL_reads_88 : decode cL_reads 88 = .ok (.goto 5, 3) := by decide +kernel
theorem dL_reads_91 : decode cL_reads 91 = .ok (.bipush 12, 2) := by decide +kernel
theorem dL_reads_93 : decode cL_reads 93 = .ok (.irem, 1) := by decide +kernel
theorem dL_reads_94 : decode cL_reads 94 = .ok (.istore 11, 2) := by decide +kernel
theorem dL_reads_96 : decode cL_reads 96 = .ok (.iload 10, 2) := by decide +kernel
theorem dL_reads_98 : decode cL_reads 98 = .ok (.iload 6, 2) := by decide +kernel
theorem dL_reads_100 : decode cL_reads 100 = .ok (.if_icmp .ge 19, 3) := by decide +kernel
theorem dL_reads_103 : decode cL_reads 103 = .ok (.iload 4, 2) := by decide +kernel
theorem dL_reads_105 : decode cL_reads 105 = .ok (.iconst 3, 1) := by decide +kernel
theorem dL_reads_106 : decode cL_reads 106 = .ok (.iload 8, 2) := by decide +kernel
theorem dL_reads_108 : decode cL_reads 108 = .ok (.iadd, 1) := by decide +kernel
theorem dL_reads_109 : decode cL_reads 109 = .ok (.idiv, 1) := by decide +kernel
theorem dL_reads_110 : decode cL_reads 110 = .ok (.iconst 5, 1) := by decide +kernel
theorem dL_reads_111 : decode cL_reads 111 = .ok (.irem, 1) := by decide +kernel
theorem dL_reads_112 : decode cL_reads 112 = .ok (.ifCond .ne 7, 3) := by decide +kernel
theorem dL_reads_115 : decode cL_reads 115 = .ok (.iconst 1, 1) := by decide +kernel
theorem dL_reads_116 : decode cL_reads 116 = .ok (.goto 4, 3) := by decide +kernel
theorem dL_reads_119 : decode cL_reads 119 = .ok (.iconst 0, 1) := by decide +kernel
theorem dL_reads_120 : decode cL_reads 120 = .ok (.istore 12, 2) := by decide +kernel
theorem dL_reads_122 : decode cL_reads 122 = .ok (.iload 7, 2) := by decide +kernel
theorem dL_reads_124 : decode cL_reads 124 = .ok (.ifCond .eq 52, 3) := by decide +kernel
theorem dL_reads_127 : decode cL_reads 127 = .ok (.iload 10, 2) := by decide +kernel
theorem dL_reads_129 : decode cL_reads 129 = .ok (.ifCond .eq 24, 3) := by decide +kernel
theorem dL_reads_132 : decode cL_reads 132 = .ok (.aload_n 0, 1) := by decide +kernel
theorem dL_reads_133 : decode cL_reads 133 = .ok (.iload 10, 2) := by decide +kernel
theorem dL_reads_135 : decode cL_reads 135 = .ok (.iload 6, 2) := by decide +kernel
theorem dL_reads_137 : decode cL_reads 137 = .ok (.if_icmp .ne 8, 3) := by decide +kernel
theorem dL_reads_140 : decode cL_reads 140 = .ok (.bipush 47, 2) := by decide +kernel
theorem dL_reads_142 : decode cL_reads 142 = .ok (.goto 5, 3) := by decide +kernel
theorem dL_reads_145 : decode cL_reads 145 = .ok (.bipush 44, 2) := by decide +kernel
theorem dL_reads_147 : decode cL_reads 147 = .ok (.invokevirtual 15, 3) := by decide +kernel
theorem dL_reads_150 : decode cL_reads 150 = .ok (.ifCond .le 26, 3) := by decide +kernel
theorem dL_reads_153 : decode cL_reads 153 = .ok (.iload 10, 2) := by decide +kernel
theorem dL_reads_155 : decode cL_reads 155 = .ok (.ifCond .gt 17, 3) := by decide +kernel
theorem dL_reads_158 : decode cL_reads 158 = .ok (.iload 9, 2) := by decide +kernel
theorem dL_reads_160 : decode cL_reads 160 = .ok (.ifCond .eq 12, 3) := by decide +kernel
theorem dL_reads_163 : decode cL_reads 163 = .ok (.aload_n 0, 1) := by decide +kernel
theorem dL_reads_164 : decode cL_reads 164 = .ok (.bipush 59, 2) := by decide +kernel
theorem dL_reads_166 : decode cL_reads 166 = .ok (.invokevirtual 15, 3) := by decide +kernel
theorem dL_reads_169 : decode cL_reads 169 = .ok (.ifCond .le 7, 3) := by decide +kernel
theorem dL_reads_172 : decode cL_reads 172 = .ok (.iconst 1, 1) := by decide +kernel
theorem dL_reads_173 : decode cL_reads 173 = .ok (.goto 4, 3) := by decide +kernel
theorem dL_reads_176 : decode cL_reads 176 = .ok (.iconst 0, 1) := by decide +kernel
theorem dL_reads_177 : decode cL_reads 177 = .ok (.istore 7, 2) := by decide +kernel
theorem dL_reads_179 : decode cL_reads 179 = .ok (.iload 11, 2) := by decide +kernel
theorem dL_reads_181 : decode cL_reads 181 = .ok (.bipush 99, 2) := by decide +kernel
theorem dL_reads_183 : decode cL_reads 183 = .ok (.if_icmp .le 8, 3) := by decide +kernel
theorem dL_reads_186 : decode cL_reads 186 = .ok (.bipush 100, 2) := by decide +kernel
theorem dL_reads_188 : decode cL_reads 188 = .ok (.goto 16, 3) := by decide +kernel
theorem dL_reads_191 : decode cL_reads 191 = .ok (.iload 11, 2) := by decide +kernel
theorem dL_reads_193 : decode cL_reads 193 = .ok (.bipush 9, 2) := by decide +kernel
theorem dL_reads_195 : decode cL_reads 195 = .ok (.if_icmp .le 8, 3) := by decide +kernel
theorem dL_reads_198 : decode cL_reads 198 = .ok (.bipush 10, 2) := by decide +kernel
theorem dL_reads_200 : decode cL_reads 200 = .ok (.goto 4, 3) := by decide +kernel
theorem dL_reads_203 : decode cL_reads 203 = .ok (.iconst 1, 1) := by decide +kernel
theorem dL_reads_204 : decode cL_reads 204 = .ok (.istore 13, 2) := by decide +kernel
theorem dL_reads_206 : decode cL_reads 206 = .ok (.iload 13, 2) := by decide +kernel
theorem dL_reads_208 : decode cL_reads 208 = .ok (.istore 14, 2) := by decide +kernel
theorem dL_reads_210 : decode cL_reads 210 = .ok (.iload 14, 2) := by decide +kernel
theorem dL_reads_212 : decode cL_reads 212 = .ok (.ifCond .le 48, 3) := by decide +kernel
theorem dL_reads_215 : decode cL_reads 215 = .ok (.iload 12, 2) := by decide +kernel
theorem dL_reads_217 : decode cL_reads 217 = .ok (.ifCond .ne 43, 3) := by decide +kernel
theorem dL_reads_220 : decode cL_reads 220 = .ok (.iload 7, 2) := by decide +kernel
theorem dL_reads_222 : decode cL_reads 222 = .ok (.ifCond .eq 25, 3) := by decide +kernel
theorem dL_reads_225 : decode cL_reads 225 = .ok (.aload_n 0, 1) := by decide +kernel
theorem dL_reads_226 : decode cL_reads 226 = .ok (.bipush 48, 2) := by decide +kernel
theorem dL_reads_228 : decode cL_reads 228 = .ok (.iload 11, 2) := by decide +kernel
theorem dL_reads_230 : decode cL_reads 230 = .ok (.iload 14, 2) := by decide +kernel
theorem dL_reads_232 : decode cL_reads 232 = .ok (.idiv, 1) := by decide +kernel
theorem dL_reads_233 : decode cL_reads 233 = .ok (.bipush 10, 2) := by decide +kernel
theorem dL_reads_235 : decode cL_reads 235 = .ok (.irem, 1) := by decide +kernel
theorem dL_reads_236 : decode cL_reads 236 = .ok (.iadd, 1) := by decide +kernel
theorem dL_reads_237 : decode cL_reads 237 = .ok (.invokevirtual 15, 3) := by decide +kernel
theorem dL_reads_240 : decode cL_reads 240 = .ok (.ifCond .le 7, 3) := by decide +kernel
theorem dL_reads_243 : decode cL_reads 243 = .ok (.iconst 1, 1) := by decide +kernel
theorem dL_reads_244 : decode cL_reads 244 = .ok (.goto 4, 3) := by decide +kernel
theorem dL_reads_247 : decode cL_reads 247 = .ok (.iconst 0, 1) := by decide +kernel
theorem dL_reads_248 : decode cL_reads 248 = .ok (.istore 7, 2) := by decide +kernel
theorem dL_reads_250 : decode cL_reads 250 = .ok (.iload 14, 2) := by decide +kernel
theorem dL_reads_252 : decode cL_reads 252 = .ok (.bipush 10, 2) := by decide +kernel
theorem dL_reads_254 : decode cL_reads 254 = .ok (.idiv, 1) := by decide +kernel
theorem dL_reads_255 : decode cL_reads 255 = .ok (.istore 14, 2) := by decide +kernel
theorem dL_reads_257 : decode cL_reads 257 = .ok (.goto (-47), 3) := by decide +kernel
theorem dL_reads_260 : decode cL_reads 260 = .ok (.iload 7, 2) := by decide +kernel
theorem dL_reads_262 : decode cL_reads 262 = .ok (.ifCond .eq 21, 3) := by decide +kernel
theorem dL_reads_265 : decode cL_reads 265 = .ok (.iload 12, 2) := by decide +kernel
theorem dL_reads_267 : decode cL_reads 267 = .ok (.ifCond .eq 12, 3) := by decide +kernel
theorem dL_reads_270 : decode cL_reads 270 = .ok (.aload_n 0, 1) := by decide +kernel
theorem dL_reads_271 : decode cL_reads 271 = .ok (.bipush 120, 2) := by decide +kernel
theorem dL_reads_273 : decode cL_reads 273 = .ok (.invokevirtual 15, 3) := by decide +kernel
theorem dL_reads_276 : decode cL_reads 276 = .ok (.ifCond .le 7, 3) := by decide +kernel
theorem dL_reads_279 : decode cL_reads 279 = .ok (.iconst 1, 1) := by decide +kernel
theorem dL_reads_280 : decode cL_reads 280 = .ok (.goto 4, 3) := by decide +kernel
theorem dL_reads_283 : decode cL_reads 283 = .ok (.iconst 0, 1) := by decide +kernel
theorem dL_reads_284 : decode cL_reads 284 = .ok (.istore 7, 2) := by decide +kernel
theorem dL_reads_286 : decode cL_reads 286 = .ok (.iload 10, 2) := by decide +kernel
theorem dL_reads_288 : decode cL_reads 288 = .ok (.iload 6, 2) := by decide +kernel
theorem dL_reads_290 : decode cL_reads 290 = .ok (.if_icmp .ne 12, 3) := by decide +kernel
theorem dL_reads_293 : decode cL_reads 293 = .ok (.aload_n 3, 1) := by decide +kernel
theorem dL_reads_294 : decode cL_reads 294 = .ok (.iload 9, 2) := by decide +kernel
theorem dL_reads_296 : decode cL_reads 296 = .ok (.iload 11, 2) := by decide +kernel
theorem dL_reads_298 : decode cL_reads 298 = .ok (.iastore, 1) := by decide +kernel
theorem dL_reads_299 : decode cL_reads 299 = .ok (.goto 24, 3) := by decide +kernel
theorem dL_reads_302 : decode cL_reads 302 = .ok (.aload_n 2, 1) := by decide +kernel
theorem dL_reads_303 : decode cL_reads 303 = .ok (.bipush 7, 2) := by decide +kernel
theorem dL_reads_305 : decode cL_reads 305 = .ok (.iload 9, 2) := by decide +kernel
theorem dL_reads_307 : decode cL_reads 307 = .ok (.imul, 1) := by decide +kernel
theorem dL_reads_308 : decode cL_reads 308 = .ok (.iload 10, 2) := by decide +kernel
theorem dL_reads_310 : decode cL_reads 310 = .ok (.iadd, 1) := by decide +kernel
theorem dL_reads_311 : decode cL_reads 311 = .ok (.iload 12, 2) := by decide +kernel
theorem dL_reads_313 : decode cL_reads 313 = .ok (.ifCond .eq 7, 3) := by decide +kernel
theorem dL_reads_316 : decode cL_reads 316 = .ok (.iconst (-1), 1) := by decide +kernel
theorem dL_reads_317 : decode cL_reads 317 = .ok (.goto 5, 3) := by decide +kernel
theorem dL_reads_320 : decode cL_reads 320 = .ok (.iload 11, 2) := by decide +kernel
theorem dL_reads_322 : decode cL_reads 322 = .ok (.iastore, 1) := by decide +kernel
theorem dL_reads_323 : decode cL_reads 323 = .ok (.iinc 8 1, 3) := by decide +kernel
theorem dL_reads_326 : decode cL_reads 326 = .ok (.goto (-291), 3) := by decide +kernel
theorem dL_reads_329 : decode cL_reads 329 = .ok (.aload_n 1, 1) := by decide +kernel
theorem dL_reads_330 : decode cL_reads 330 = .ok (.iconst 0, 1) := by decide +kernel
theorem dL_reads_331 : decode cL_reads 331 = .ok (.iload 5, 2) := by decide +kernel
theorem dL_reads_333 : decode cL_reads 333 = .ok (.iastore, 1) := by decide +kernel
theorem dL_reads_334 : decode cL_reads 334 = .ok (.aload_n 1, 1) := by decide +kernel
theorem dL_reads_335 : decode cL_reads 335 = .ok (.iconst 1, 1) := by decide +kernel
theorem dL_reads_336 : decode cL_reads 336 = .ok (.iload 6, 2) := by decide +kernel
theorem dL_reads_338 : decode cL_reads 338 = .ok (.iastore, 1) := by decide +kernel
theorem dL_reads_339 : decode cL_reads 339 = .ok (.aload_n 0, 1) := by decide +kernel
theorem dL_reads_340 : decode cL_reads 340 = .ok (.invokevirtual 19, 3) := by decide +kernel
theorem dL_reads_343 : decode cL_reads 343 = .ok (.istore 8, 2) := by decide +kernel
theorem dL_reads_345 : decode cL_reads 345 = .ok (.iload 7, 2) := by decide +kernel
theorem dL_reads_347 : decode cL_reads 347 = .ok (.ifCond .eq 38, 3) := by decide +kernel
theorem dL_reads_350 : decode cL_reads 350 = .ok (.iload 8, 2) := by decide +kernel
theorem dL_reads_352 : decode cL_reads 352 = .ok (.ifCond .lt 33, 3) := by decide +kernel
theorem dL_reads_355 : decode cL_reads 355 = .ok (.iload 8, 2) := by decide +kernel
theorem dL_reads_357 : decode cL_reads 357 = .ok (.aload_n 0, 1) := by decide +kernel
theorem dL_reads_358 : decode cL_reads 358 = .ok (.invokevirtual 22, 3) := by decide +kernel
theorem dL_reads_361 : decode cL_reads 361 = .ok (.if_icmp .ne 24, 3) := by decide +kernel
theorem dL_reads_364 : decode cL_reads 364 = .ok (.aload_n 0, 1) := by decide +kernel
theorem dL_reads_365 : decode cL_reads 365 = .ok (.iconst 0, 1) := by decide +kernel
theorem dL_reads_366 : decode cL_reads 366 = .ok (.invokevirtual 25, 3) := by decide +kernel
theorem dL_reads_369 : decode cL_reads 369 = .ok (.bipush (-4), 2) := by decide +kernel
theorem dL_reads_371 : decode cL_reads 371 = .ok (.if_icmp .ne 14, 3) := by decide +kernel
theorem dL_reads_374 : decode cL_reads 374 = .ok (.aload_n 0, 1) := by decide +kernel
theorem dL_reads_375 : decode cL_reads 375 = .ok (.invokevirtual 9, 3) := by decide +kernel
theorem dL_reads_378 : decode cL_reads 378 = .ok (.ifCond .le 7, 3) := by decide +kernel
theorem dL_reads_381 : decode cL_reads 381 = .ok (.iconst 1, 1) := by decide +kernel
theorem dL_reads_382 : decode cL_reads 382 = .ok (.goto 4, 3) := by decide +kernel
theorem dL_reads_385 : decode cL_reads 385 = .ok (.iconst 0, 1) := by decide +kernel
theorem dL_reads_386 : decode cL_reads 386 = .ok (.ireturn, 1) := by decide +kernel
