set_option maxRecDepth 20000 in
theorem ggL_tables_X6_worker : GoodIn wsL_tables wsX6_worker := goodIn_r _ [5, 6, 7, 8, 9, 10, 4, 11, 12, 13, 14, 15, 16, 17, 18, 19, 20, 21, 22, 23, 24, 25, 26, 27, 28, 29, 30, 31, 32, 33, 34, 35, 69, 70, 71, 72, 73, 74, 75, 76, 77, 78, 79, 80] (by decide +kernel) (by decide +kernel)
set_option maxRecDepth 20000 in
theorem gL_tables_X6_worker : GoodIn wsL_tables (wsV RL 28 RX6 yX6_worker wsX6_worker) := goodIn_app (goodIn_of _ (by decide +kernel)) ggL_tables_X6_worker
set_option maxRecDepth 20000 in
theorem ggL_tables_X6_task : GoodIn wsL_tables wsX6_task := goodIn_r _ [39, 6, 40, 8, 12, 13, 14, 15, 16, 17, 18, 19, 20, 21, 22, 23, 24, 25, 26, 27, 28, 29, 30, 31, 41, 42, 43, 44, 69, 70, 71, 72, 73, 74, 75, 76, 77, 78, 79, 80] (by decide +kernel) (by decide +kernel)
set_option maxRecDepth 20000 in
theorem gL_tables_X6_task : GoodIn wsL_tables (wsV RL 31 RX6 yX6_task wsX6_task) := goodIn_app (goodIn_of _ (by decide +kernel)) ggL_tables_X6_task
set_option maxRecDepth 20000 in
theorem ggL_tables_X6_dropWorker : GoodIn wsL_tables wsX6_dropWorker := goodIn_r _ [48, 8, 6, 7, 49, 50, 51, 4, 52, 12, 13, 14, 15, 16, 17, 18, 19, 20, 21, 22, 23, 24, 25, 26, 27, 28, 29, 30, 31, 53, 54, 55, 56, 69, 70, 71, 72, 73, 74, 75, 76, 77, 78, 79, 80] (by decide +kernel) (by decide +kernel)
set_option maxRecDepth 20000 in
theorem gL_tables_X6_dropWorker : GoodIn wsL_tables (wsV RL 34 RX6 yX6_dropWorker wsX6_dropWorker) := goodIn_app (goodIn_of _ (by decide +kernel)) ggL_tables_X6_dropWorker
set_option maxRecDepth 20000 in
theorem ggL_tables_X6_dropTask : GoodIn wsL_tables wsX6_dropTask := goodIn_r _ [60, 8, 6, 40, 61, 62, 63, 4, 64, 12, 13, 14, 15, 16, 17, 18, 19, 20, 21, 22, 23, 24, 25, 26, 27, 28, 29, 30, 31, 65, 66, 67, 68, 69, 70, 71, 72, 73, 74, 75, 76, 77, 78, 79, 80] (by decide +kernel) (by decide +kernel)
set_option maxRecDepth 20000 in
theorem gL_tables_X6_dropTask : GoodIn wsL_tables (wsV RL 37 RX6 yX6_dropTask wsX6_dropTask) := goodIn_app (goodIn_of _ (by decide +kernel)) ggL_tables_X6_dropTask
theorem dL_tables_0 : decode cL_tables 0 = .ok (.iload 4, 2) := by decide +kernel
theorem dL_tables_2 : decode cL_tables 2 = .ok (.ifCond .ne 110, 3) := by decide +kernel
theorem dL_tables_5 : decode cL_tables 5 = .ok (.iload 5, 2) := by decide +kernel
theorem dL_tables_7 : decode cL_tables 7 = .ok (.iload 5, 2) := by decide +kernel
theorem dL_tables_9 : decode cL_tables 9 = .ok (.iconst 3, 1) := by decide +kernel
theorem dL_tables_10 : decode cL_tables 10 = .ok (.irem, 1) := by decide +kernel
theorem dL_tables_11 : decode cL_tables 11 = .ok (.ifCond .ne 9, 3) := by decide +kernel
theorem dL_tables_14 : decode cL_tables 14 = .ok (.sipush 10000, 3) := by decide +kernel
theorem dL_tables_17 : decode cL_tables 17 = .ok (.goto 5, 3) := by decide +kernel
theorem dL_tables_20 : decode cL_tables 20 = .ok (.bipush 20, 2) := by decide +kernel
theorem dL_tables_22 : decode cL_tables 22 = .ok (.irem, 1) := by decide +kernel
theorem dL_tables_23 : decode cL_tables 23 = .ok (.istore 6, 2) := by decide +kernel
theorem dL_tables_25 : decode cL_tables 25 = .ok (.aload_n 1, 1) := by decide +kernel
theorem dL_tables_26 : decode cL_tables 26 = .ok (.iconst 0, 1) := by decide +kernel
theorem dL_tables_27 : decode cL_tables 27 = .ok (.iaload, 1) := by decide +kernel
theorem dL_tables_28 : decode cL_tables 28 = .ok (.bipush 7, 2) := by decide +kernel
theorem dL_tables_30 : decode cL_tables 30 = .ok (.if_icmp .ne 20, 3) := by decide +kernel
theorem dL_tables_33 : decode cL_tables 33 = .ok (.aload_n 0, 1) := by decide +kernel
theorem dL_tables_34 : decode cL_tables 34 = .ok (.iload 6, 2) := by decide +kernel
theorem dL_tables_36 : decode cL_tables 36 = .ok (.invokevirtual 28, 3) := by decide +kernel
theorem dL_tables_39 : decode cL_tables 39 = .ok (.bipush (-3), 2) := by decide +kernel
theorem dL_tables_41 : decode cL_tables 41 = .ok (.if_icmp .ne 7, 3) := by decide +kernel
theorem dL_tables_44 : decode cL_tables 44 = .ok (.iconst 1, 1) := by decide +kernel
theorem dL_tables_45 : decode cL_tables 45 = .ok (.goto 4, 3) := by decide +kernel
theorem dL_tables_48 : decode cL_tables 48 = .ok (.iconst 0, 1) := by decide +kernel
theorem dL_tables_49 : decode cL_tables 49 = .ok (.ireturn, 1) := by decide +kernel
theorem dL_tables_50 : decode cL_tables 50 = .ok (.aload_n 3, 1) := by decide +kernel
theorem dL_tables_51 : decode cL_tables 51 = .ok (.aload_n 1, 1) := by decide +kernel
theorem dL_tables_52 : decode cL_tables 52 = .ok (.iconst 0, 1) := by decide +kernel
theorem dL_tables_53 : decode cL_tables 53 = .ok (.iaload, 1) := by decide +kernel
theorem dL_tables_54 : decode cL_tables 54 = .ok (.iload 6, 2) := by decide +kernel
theorem dL_tables_56 : decode cL_tables 56 = .ok (.iastore, 1) := by decide +kernel
theorem dL_tables_57 : decode cL_tables 57 = .ok (.iconst 0, 1) := by decide +kernel
theorem dL_tables_58 : decode cL_tables 58 = .ok (.istore 7, 2) := by decide +kernel
theorem dL_tables_60 : decode cL_tables 60 = .ok (.iload 7, 2) := by decide +kernel
theorem dL_tables_62 : decode cL_tables 62 = .ok (.bipush 7, 2) := by decide +kernel
theorem dL_tables_64 : decode cL_tables 64 = .ok (.if_icmp .ge 21, 3) := by decide +kernel
theorem dL_tables_67 : decode cL_tables 67 = .ok (.aload_n 2, 1) := by decide +kernel
theorem dL_tables_68 : decode cL_tables 68 = .ok (.bipush 7, 2) := by decide +kernel
theorem dL_tables_70 : decode cL_tables 70 = .ok (.aload_n 1, 1) := by decide +kernel
theorem dL_tables_71 : decode cL_tables 71 = .ok (.iconst 0, 1) := by decide +kernel
theorem dL_tables_72 : decode cL_tables 72 = .ok (.iaload, 1) := by decide +kernel
theorem dL_tables_73 : decode cL_tables 73 = .ok (.imul, 1) := by decide +kernel
theorem dL_tables_74 : decode cL_tables 74 = .ok (.iload 7, 2) := by decide +kernel
theorem dL_tables_76 : decode cL_tables 76 = .ok (.iadd, 1) := by decide +kernel
theorem dL_tables_77 : decode cL_tables 77 = .ok (.iconst (-1), 1) := by decide +kernel
theorem dL_tables_78 : decode cL_tables 78 = .ok (.iastore, 1) := by decide +kernel
theorem dL_tables_79 : decode cL_tables 79 = .ok (.iinc 7 1, 3) := by decide +kernel
theorem dL_tables_82 : decode cL_tables 82 = .ok (.goto (-22), 3) := by decide +kernel
theorem dL_tables_85 : decode cL_tables 85 = .ok (.aload_n 1, 1) := by decide +kernel
theorem dL_tables_86 : decode cL_tables 86 = .ok (.iconst 0, 1) := by decide +kernel
theorem dL_tables_87 : decode cL_tables 87 = .ok (.dup2, 1) := by decide +kernel
theorem dL_tables_88 : decode cL_tables 88 = .ok (.iaload, 1) := by decide +kernel
theorem dL_tables_89 : decode cL_tables 89 = .ok (.iconst 1, 1) := by decide +kernel
theorem dL_tables_90 : decode cL_tables 90 = .ok (.iadd, 1) := by decide +kernel
theorem dL_tables_91 : decode cL_tables 91 = .ok (.iastore, 1) := by decide +kernel
theorem dL_tables_92 : decode cL_tables 92 = .ok (.aload_n 0, 1) := by decide +kernel
theorem dL_tables_93 : decode cL_tables 93 = .ok (.iload 6, 2) := by decide +kernel
theorem dL_tables_95 : decode cL_tables 95 = .ok (.invokevirtual 28, 3) := by decide +kernel
theorem dL_tables_98 : decode cL_tables 98 = .ok (.aload_n 1, 1) := by decide +kernel
theorem dL_tables_99 : decode cL_tables 99 = .ok (.iconst 0, 1) := by decide +kernel
theorem dL_tables_100 : decode cL_tables 100 = .ok (.iaload, 1) := by decide +kernel
theorem dL_tables_101 : decode cL_tables 101 = .ok (.iconst 1, 1) := by decide +kernel
theorem dL_tables_102 : decode cL_tables 102 = .ok (.isub, 1) := by decide +kernel
theorem dL_tables_103 : decode cL_tables 103 = .ok (.if_icmp .ne 7, 3) := by decide +kernel
theorem dL_tables_106 : decode cL_tables 106 = .ok (.iconst 1, 1) := by decide +kernel
theorem dL_tables_107 : decode cL_tables 107 = .ok (.goto 4, 3) := by decide +kernel
theorem dL_tables_110 : decode cL_tables 110 = .ok (.iconst 0, 1) := by decide +kernel
theorem dL_tables_111 : decode cL_tables 111 = .ok (.ireturn, 1) := by decide +kernel
theorem dL_tables_112 : decode cL_tables 112 = .ok (.iload 4, 2) := by decide +kernel
theorem dL_tables_114 : decode cL_tables 114 = .ok (.iconst 1, 1) := by decide +kernel
theorem dL_tables_115 : decode cL_tables 115 = .ok (.if_icmp .ne 65, 3) := by decide +kernel
theorem dL_tables_118 : decode cL_tables 118 = .ok (.aload_n 1, 1) := by decide +kernel
theorem dL_tables_119 : decode cL_tables 119 = .ok (.iconst 1, 1) := by decide +kernel
theorem dL_tables_120 : decode cL_tables 120 = .ok (.iaload, 1) := by decide +kernel
theorem dL_tables_121 : decode cL_tables 121 = .ok (.iconst 5, 1) := by decide +kernel
theorem dL_tables_122 : decode cL_tables 122 = .ok (.if_icmp .ne 5, 3) := by decide +kernel
theorem dL_tables_125 : decode cL_tables 125 = .ok (.iconst 1, 1) := by decide +kernel
theorem dL_tables_126 : decode cL_tables 126 = .ok (.ireturn, 1) := by decide +kernel
theorem dL_tables_127 : decode cL_tables 127 = .ok (.iconst 0, 1) := by decide +kernel
theorem dL_tables_128 : decode cL_tables 128 = .ok (.istore 6, 2) := by decide +kernel
theorem dL_tables_130 : decode cL_tables 130 = .ok (.iload 6, 2) := by decide +kernel
theorem dL_tables_132 : decode cL_tables 132 = .ok (.bipush 7, 2) := by decide +kernel
theorem dL_tables_134 : decode cL_tables 134 = .ok (.if_icmp .ge 21, 3) := by decide +kernel
theorem dL_tables_137 : decode cL_tables 137 = .ok (.aload_n 2, 1) := by decide +kernel
theorem dL_tables_138 : decode cL_tables 138 = .ok (.bipush 7, 2) := by decide +kernel
theorem dL_tables_140 : decode cL_tables 140 = .ok (.iload 6, 2) := by decide +kernel
theorem dL_tables_142 : decode cL_tables 142 = .ok (.imul, 1) := by decide +kernel
theorem dL_tables_143 : decode cL_tables 143 = .ok (.aload_n 1, 1) := by decide +kernel
theorem dL_tables_144 : decode cL_tables 144 = .ok (.iconst 1, 1) := by decide +kernel
theorem dL_tables_145 : decode cL_tables 145 = .ok (.iaload, 1) := by decide +kernel
theorem dL_tables_146 : decode cL_tables 146 = .ok (.iadd, 1) := by decide +kernel
theorem dL_tables_147 : decode cL_tables 147 = .ok (.iconst (-1), 1) := by decide +kernel
theorem dL_tables_148 : decode cL_tables 148 = .ok (.iastore, 1) := by decide +kernel
theorem dL_tables_149 : decode cL_tables 149 = .ok (.iinc 6 1, 3) := by decide +kernel
theorem dL_tables_152 : decode cL_tables 152 = .ok (.goto (-22), 3) := by decide +kernel
theorem dL_tables_155 : decode cL_tables 155 = .ok (.aload_n 1, 1) := by decide +kernel
theorem dL_tables_156 : decode cL_tables 156 = .ok (.iconst 1, 1) := by decide +kernel
theorem dL_tables_157 : decode cL_tables 157 = .ok (.dup2, 1) := by decide +kernel
theorem dL_tables_158 : decode cL_tables 158 = .ok (.iaload, 1) := by decide +kernel
theorem dL_tables_159 : decode cL_tables 159 = .ok (.iconst 1, 1) := by decide +kernel
theorem dL_tables_160 : decode cL_tables 160 = .ok (.iadd, 1) := by decide +kernel
theorem dL_tables_161 : decode cL_tables 161 = .ok (.iastore, 1) := by decide +kernel
theorem dL_tables_162 : decode cL_tables 162 = .ok (.aload_n 0, 1) := by decide +kernel
theorem dL_tables_163 : decode cL_tables 163 = .ok (.invokevirtual 31, 3) := by decide +kernel
theorem dL_tables_166 : decode cL_tables 166 = .ok (.aload_n 1, 1) := by decide +kernel
theorem dL_tables_167 : decode cL_tables 167 = .ok (.iconst 1, 1) := by decide +kernel
theorem dL_tables_168 : decode cL_tables 168 = .ok (.iaload, 1) := by decide +kernel
theorem dL_tables_169 : decode cL_tables 169 = .ok (.iconst 1, 1) := by decide +kernel
theorem dL_tables_170 : decode cL_tables 170 = .ok (.isub, 1) := by decide +kernel
theorem dL_tables_171 : decode cL_tables 171 = .ok (.if_icmp .ne 7, 3) := by decide +kernel
theorem dL_tables_174 : decode cL_tables 174 = .ok (.iconst 1, 1) := by decide +kernel
theorem dL_tables_175 : decode cL_tables 175 = .ok (.goto 4, 3) := by decide +kernel
theorem dL_tables_178 : decode cL_tables 178 = .ok (.iconst 0, 1) := by decide +kernel
theorem dL_tables_179 : decode cL_tables 179 = .ok (.ireturn, 1) := by decide +kernel
theorem dL_tables_180 : decode cL_tables 180 = .ok (.iload 4, 2) := by decide +kernel
theorem dL_tables_182 : decode cL_tables 182 = .ok (.iconst 2, 1) := by decide +kernel
theorem dL_tables_183 : decode cL_tables 183 = .ok (.if_icmp .ne 115, 3) := by decide +kernel
theorem dL_tables_186 : decode cL_tables 186 = .ok (.aload_n 1, 1) := by decide +kernel
theorem dL_tables_187 : decode cL_tables 187 = .ok (.iconst 0, 1) := by decide +kernel
theorem dL_tables_188 : decode cL_tables 188 = .ok (.iaload, 1) := by decide +kernel
theorem dL_tables_189 : decode cL_tables 189 = .ok (.ifCond .ne 18, 3) := by decide +kernel
theorem dL_tables_192 : decode cL_tables 192 = .ok (.aload_n 0, 1) := by decide +kernel
theorem dL_tables_193 : decode cL_tables 193 = .ok (.iconst 0, 1) := by decide +kernel
theorem dL_tables_194 : decode cL_tables 194 = .ok (.invokevirtual 34, 3) := by decide +kernel
theorem dL_tables_197 : decode cL_tables 197 = .ok (.iconst (-1), 1) := by decide +kernel
theorem dL_tables_198 : decode cL_tables 198 = .ok (.if_icmp .ne 7, 3) := by decide +kernel
theorem dL_tables_201 : decode cL_tables 201 = .ok (.iconst 1, 1) := by decide +kernel
theorem dL_tables_202 : decode cL_tables 202 = .ok (.goto 4, 3) := by decide +kernel
theorem dL_tables_205 : decode cL_tables 205 = .ok (.iconst 0, 1) := by decide +kernel
theorem dL_tables_206 : decode cL_tables 206 = .ok (.ireturn, 1) := by decide +kernel
theorem dL_tables_207 : decode cL_tables 207 = .ok (.iload 5, 2) := by decide +kernel
theorem dL_tables_209 : decode cL_tables 209 = .ok (.aload_n 1, 1) := by decide +kernel
theorem dL_tables_210 : decode cL_tables 210 = .ok (.iconst 0, 1) := by decide +kernel
theorem dL_tables_211 : decode cL_tables 211 = .ok (.iaload, 1) := by decide +kernel
theorem dL_tables_212 : decode cL_tables 212 = .ok (.irem, 1) := by decide +kernel
theorem dL_tables_213 : decode cL_tables 213 = .ok (.istore 6, 2) := by decide +kernel
theorem dL_tables_215 : decode cL_tables 215 = .ok (.aload_n 1, 1) := by decide +kernel
theorem dL_tables_216 : decode cL_tables 216 = .ok (.iconst 0, 1) := by decide +kernel
theorem dL_tables_217 : decode cL_tables 217 = .ok (.dup2, 1) := by decide +kernel
theorem dL_tables_218 : decode cL_tables 218 = .ok (.iaload, 1) := by decide +kernel
theorem dL_tables_219 : decode cL_tables 219 = .ok (.iconst 1, 1) := by decide +kernel
theorem dL_tables_220 : decode cL_tables 220 = .ok (.isub, 1) := by decide +kernel
theorem dL_tables_221 : decode cL_tables 221 = .ok (.iastore, 1) := by decide +kernel
theorem dL_tables_222 : decode cL_tables 222 = .ok (.bipush 7, 2) := by decide +kernel
theorem dL_tables_224 : decode cL_tables 224 = .ok (.iload 6, 2) := by decide +kernel
theorem dL_tables_226 : decode cL_tables 226 = .ok (.imul, 1) := by decide +kernel
theorem dL_tables_227 : decode cL_tables 227 = .ok (.istore 7, 2) := by decide +kernel
theorem dL_tables_229 : decode cL_tables 229 = .ok (.iload 7, 2) := by decide +kernel
theorem dL_tables_231 : decode cL_tables 231 = .ok (.bipush 42, 2) := by decide +kernel
theorem dL_tables_233 : decode cL_tables 233 = .ok (.if_icmp .ge 20, 3) := by decide +kernel
theorem dL_tables_236 : decode cL_tables 236 = .ok (.aload_n 2, 1) := by decide +kernel
theorem dL_tables_237 : decode cL_tables 237 = .ok (.iload 7, 2) := by decide +kernel
theorem dL_tables_239 : decode cL_tables 239 = .ok (.aload_n 2, 1) := by decide +kernel
theorem dL_tables_240 : decode cL_tables 240 = .ok (.iload 7, 2) := by decide +kernel
theorem dL_tables_242 : decode cL_tables 242 = .ok (.bipush 7, 2) := by decide +kernel
theorem dL_tables_244 : decode cL_tables 244 = .ok (.iadd, 1) := by decide +kernel
theorem dL_tables_245 : decode cL_tables 245 = .ok (.iaload, 1) := by decide +kernel
theorem dL_tables_246 : decode cL_tables 246 = .ok (.iastore, 1) := by decide +kernel
theorem dL_tables_247 : decode cL_tables 247 = .ok (.iinc 7 1, 3) := by decide +kernel
theorem dL_tables_250 : decode cL_tables 250 = .ok (.goto (-21), 3) := by decide +kernel
theorem dL_tables_253 : decode cL_tables 253 = .ok (.iload 6, 2) := by decide +kernel
theorem dL_tables_255 : decode cL_tables 255 = .ok (.istore 7, 2) := by decide +kernel
theorem dL_tables_257 : decode cL_tables 257 = .ok (.iload 7, 2) := by decide +kernel
theorem dL_tables_259 : decode cL_tables 259 = .ok (.bipush 6, 2) := by decide +kernel
theorem dL_tables_261 : decode cL_tables 261 = .ok (.if_icmp .ge 19, 3) := by decide +kernel
theorem dL_tables_264 : decode cL_tables 264 = .ok (.aload_n 3, 1) := by decide +kernel
theorem dL_tables_265 : decode cL_tables 265 = .ok (.iload 7, 2) := by decide +kernel
theorem dL_tables_267 : decode cL_tables 267 = .ok (.aload_n 3, 1) := by decide +kernel
theorem dL_tables_268 : decode cL_tables 268 = .ok (.iload 7, 2) := by decide +kernel
theorem dL_tables_270 : decode cL_tables 270 = .ok (.iconst 1, 1) := by decide +kernel
theorem dL_tables_271 : decode cL_tables 271 = .ok (.iadd, 1) := by decide +kernel
theorem dL_tables_272 : decode cL_tables 272 = .ok (.iaload, 1) := by decide +kernel
theorem dL_tables_273 : decode cL_tables 273 = .ok (.iastore, 1) := by decide +kernel
theorem dL_tables_274 : decode cL_tables 274 = .ok (.iinc 7 1, 3) := by decide +kernel
theorem dL_tables_277 : decode cL_tables 277 = .ok (.goto (-20), 3) := by decide +kernel
theorem dL_tables_280 : decode cL_tables 280 = .ok (.aload_n 0, 1) := by decide +kernel
theorem dL_tables_281 : decode cL_tables 281 = .ok (.iload 6, 2) := by decide +kernel
theorem dL_tables_283 : decode cL_tables 283 = .ok (.invokevirtual 34, 3) := by decide +kernel
theorem dL_tables_286 : decode cL_tables 286 = .ok (.aload_n 1, 1) := by decide +kernel
theorem dL_tables_287 : decode cL_tables 287 = .ok (.iconst 0, 1) := by decide +kernel
theorem dL_tables_288 : decode cL_tables 288 = .ok (.iaload, 1) := by decide +kernel
theorem dL_tables_289 : decode cL_tables 289 = .ok (.if_icmp .ne 7, 3) := by decide +kernel
theorem dL_tables_292 : decode cL_tables 292 = .ok (.iconst 1, 1) := by decide +kernel
theorem dL_tables_293 : decode cL_tables 293 = .ok (.goto 4, 3) := by decide +kernel
theorem dL_tables_296 : decode cL_tables 296 = .ok (.iconst 0, 1) := by decide +kernel
theorem dL_tables_297 : decode cL_tables 297 = .ok (.ireturn, 1) := by decide +kernel
theorem dL_tables_298 : decode cL_tables 298 = .ok (.aload_n 1, 1) := by decide +kernel
theorem dL_tables_299 : decode cL_tables 299 = .ok (.iconst 1, 1) := by decide +kernel
theorem dL_tables_300 : decode cL_tables 300 = .ok (.iaload, 1) := by decide +kernel
theorem dL_tables_301 : decode cL_tables 301 = .ok (.ifCond .ne 18, 3) := by decide +kernel
theorem dL_tables_304 : decode cL_tables 304 = .ok (.aload_n 0, 1) := by decide +kernel
theorem dL_tables_305 : decode cL_tables 305 = .ok (.iconst 0, 1) := by decide +kernel
theorem dL_tables_306 : decode cL_tables 306 = .ok (.invokevirtual 37, 3) := by decide +kernel
theorem dL_tables_309 : decode cL_tables 309 = .ok (.iconst (-1), 1) := by decide +kernel
theorem dL_tables_310 : decode cL_tables 310 = .ok (.if_icmp .ne 7, 3) := by decide +kernel
theorem dL_tables_313 : decode cL_tables 313 = .ok (.iconst 1, 1) := by decide +kernel
theorem dL_tables_314 : decode cL_tables 314 = .ok (.goto 4, 3) := by decide +kernel
theorem dL_tables_317 : decode cL_tables 317 = .ok (.iconst 0, 1) := by decide +kernel
theorem dL_tables_318 : decode cL_tables 318 = .ok (.ireturn, 1) := by decide +kernel
theorem dL_tables_319 : decode cL_tables 319 = .ok (.iload 5, 2) := by decide +kernel
theorem dL_tables_321 : decode cL_tables 321 = .ok (.aload_n 1, 1) := by decide +kernel
theorem dL_tables_322 : decode cL_tables 322 = .ok (.iconst 1, 1) := by decide +kernel
theorem dL_tables_323 : decode cL_tables 323 = .ok (.iaload, 1) := by decide +kernel
theorem dL_tables_324 : decode cL_tables 324 = .ok (.irem, 1) := by decide +kernel
theorem dL_tables_325 : decode cL_tables 325 = .ok (.istore 6, 2) := by decide +kernel
theorem dL_tables_327 : decode cL_tables 327 = .ok (.aload_n 1, 1) := by decide +kernel
theorem dL_tables_328 : decode cL_tables 328 = .ok (.iconst 1, 1) := by decide +kernel
theorem dL_tables_329 : decode cL_tables 329 = .ok (.dup2, 1) := by decide +kernel
theorem dL_tables_330 : decode cL_tables 330 = .ok (.iaload, 1) := by decide +kernel
theorem dL_tables_331 : decode cL_tables 331 = .ok (.iconst 1, 1) := by decide +kernel
theorem dL_tables_332 : decode cL_tables 332 = .ok (.isub, 1) := by decide +kernel
theorem dL_tables_333 : decode cL_tables 333 = .ok (.iastore, 1) := by decide +kernel
theorem dL_tables_334 : decode cL_tables 334 = .ok (.iconst 0, 1) := by decide +kernel
theorem dL_tables_335 : decode cL_tables 335 = .ok (.istore 7, 2) := by decide +kernel
theorem dL_tables_337 : decode cL_tables 337 = .ok (.iload 7, 2) := by decide +kernel
theorem dL_tables_339 : decode cL_tables 339 = .ok (.bipush 49, 2) := by decide +kernel
theorem dL_tables_341 : decode cL_tables 341 = .ok (.if_icmp .ge 46, 3) := by decide +kernel
theorem dL_tables_344 : decode cL_tables 344 = .ok (.aload_n 2, 1) := by decide +kernel
theorem dL_tables_345 : decode cL_tables 345 = .ok (.iload 7, 2) := by decide +kernel
theorem dL_tables_347 : decode cL_tables 347 = .ok (.iload 7, 2) := by decide +kernel
theorem dL_tables_349 : decode cL_tables 349 = .ok (.bipush 7, 2) := by decide +kernel
theorem dL_tables_351 : decode cL_tables 351 = .ok (.irem, 1) := by decide +kernel
theorem dL_tables_352 : decode cL_tables 352 = .ok (.iload 6, 2) := by decide +kernel
theorem dL_tables_354 : decode cL_tables 354 = .ok (.if_icmp .lt 22, 3) := by decide +kernel
theorem dL_tables_357 : decode cL_tables 357 = .ok (.iload 7, 2) := by decide +kernel
theorem dL_tables_359 : decode cL_tables 359 = .ok (.bipush 7, 2) := by decide +kernel
theorem dL_tables_361 : decode cL_tables 361 = .ok (.irem, 1) := by decide +kernel
theorem dL_tables_362 : decode cL_tables 362 = .ok (.bipush 6, 2) := by decide +kernel
theorem dL_tables_364 : decode cL_tables 364 = .ok (.if_icmp .ge 12, 3) := by decide +kernel
theorem dL_tables_367 : decode cL_tables 367 = .ok (.aload_n 2, 1) := by decide +kernel
theorem dL_tables_368 : decode cL_tables 368 = .ok (.iload 7, 2) := by decide +kernel
theorem dL_tables_370 : decode cL_tables 370 = .ok (.iconst 1, 1) := by decide +kernel
theorem dL_tables_371 : decode cL_tables 371 = .ok (.iadd, 1) := by decide +kernel
theorem dL_tables_372 : decode cL_tables 372 = .ok (.iaload, 1) := by decide +kernel
theorem dL_tables_373 : decode cL_tables 373 = .ok (.goto 7, 3) := by decide +kernel
theorem dL_tables_376 : decode cL_tables 376 = .ok (.aload_n 2, 1) := by decide +kernel
theorem dL_tables_377 : decode cL_tables 377 = .ok (.iload 7, 2) := by decide +kernel
theorem dL_tables_379 : decode cL_tables 379 = .ok (.iaload, 1) := by decide +kernel
theorem dL_tables_380 : decode cL_tables 380 = .ok (.iastore, 1) := by decide +kernel
theorem dL_tables_381 : decode cL_tables 381 = .ok (.iinc 7 1, 3) := by decide +kernel
theorem dL_tables_384 : decode cL_tables 384 = .ok (.goto (-47), 3) := by decide +kernel
theorem dL_tables_387 : decode cL_tables 387 = .ok (.aload_n 0, 1) := by decide +kernel
theorem dL_tables_388 : decode cL_tables 388 = .ok (.iload 6, 2) := by decide +kernel
theorem dL_tables_390 : decode cL_tables 390 = .ok (.invokevirtual 37, 3) := by decide +kernel
theorem dL_tables_393 : decode cL_tables 393 = .ok (.aload_n 1, 1) := by decide +kernel
theorem dL_tables_394 : decode cL_tables 394 = .ok (.iconst 1, 1) := by decide +kernel
theorem dL_tables_395 : decode cL_tables 395 = .ok (.iaload, 1) := by decide +kernel
theorem dL_tables_396 : decode cL_tables 396 = .ok (.if_icmp .ne 7, 3) := by decide +kernel
theorem dL_tables_399 : decode cL_tables 399 = .ok (.iconst 1, 1) := by decide +kernel
theorem dL_tables_400 : decode cL_tables 400 = .ok (.goto 4, 3) := by decide +kernel
theorem dL_tables_403 : decode cL_tables 403 = .ok (.iconst 0, 1) := by decide +kernel
theorem dL_tables_404 : decode cL_tables 404 = .ok (.ireturn, 1) := by decide +kernel
