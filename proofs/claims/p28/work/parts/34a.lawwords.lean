/-! the words of the law, out of the tables -/
set_option maxRecDepth 20000 in
theorem wsL_g1 : GoodIn lw_tbl wsL_law_r1 := goodIn_r _ [24, 25, 15, 69, 315, 26, 27, 28, 29, 30, 31, 32, 33, 16, 165, 70, 71, 17, 166, 87, 88, 18, 167, 108] (by decide +kernel) (by decide +kernel)
set_option maxRecDepth 20000 in
theorem wsL_g2 : GoodIn lw_tbl wsL_law_r2 := goodIn_r _ [109, 19, 168, 125, 126, 20, 169, 141, 142, 21, 170, 34, 35, 36, 37, 50, 38, 55, 72, 73, 74, 75, 76, 81] (by decide +kernel) (by decide +kernel)
set_option maxRecDepth 20000 in
theorem wsL_g3 : GoodIn lw_tbl wsL_law_r3 := goodIn_r _ [78, 89, 90, 91, 92, 97, 94, 93, 98, 110, 111, 112, 113, 116, 117, 114, 127, 128, 129, 130, 140, 134, 143, 144] (by decide +kernel) (by decide +kernel)
set_option maxRecDepth 20000 in
theorem wsL_g4_0 : GoodIn lw_tbl ((wsL_law_r4.drop 0).take 9) := goodIn_r _ [145, 146, 155, 147, 153, 148, 465, 466, 14] (by decide +kernel) (by decide +kernel)
set_option maxRecDepth 20000 in
theorem wsL_g4_1 : GoodIn lw_tbl [Cond.code yL_isSo cL_isSo 12 (some .boolean)] := goodIn_r _ [467] (by decide +kernel) (by decide +kernel)
set_option maxRecDepth 20000 in
theorem wsL_g4_2 : GoodIn lw_tbl ((wsL_law_r4.drop 10).take 14) := goodIn_r _ [245, 246, 247, 248, 54, 249, 251, 4, 252, 41, 253, 225, 226, 227] (by decide +kernel) (by decide +kernel)
theorem wsL_e4 : wsL_law_r4 = ((((wsL_law_r4.drop 0).take 9) ++ [Cond.code yL_isSo cL_isSo 12 (some .boolean)]) ++ ((wsL_law_r4.drop 10).take 14)) := rfl
theorem wsL_g4 : GoodIn lw_tbl wsL_law_r4 := by
  rw [wsL_e4]
  exact (goodIn_app (goodIn_app wsL_g4_0 wsL_g4_1) wsL_g4_2)
set_option maxRecDepth 20000 in
theorem wsL_g5 : GoodIn lw_tbl wsL_law_r5 := goodIn_r _ [200, 201, 202, 203, 40, 228, 229, 230, 231, 204, 206, 1, 207, 49, 44, 208, 210, 2, 211, 52, 217, 218, 22, 219] (by decide +kernel) (by decide +kernel)
set_option maxRecDepth 20000 in
theorem wsL_g6 : GoodIn lw_tbl wsL_law_r6 := goodIn_r _ [212, 214, 3, 215, 58, 216, 254, 233, 234, 235, 236, 255, 220, 221, 222, 223, 45, 43, 56, 242, 243, 244, 224, 232] (by decide +kernel) (by decide +kernel)
set_option maxRecDepth 20000 in
theorem wsL_g7 : GoodIn lw_tbl wsL_law_r7 := goodIn_r _ [237, 238, 239, 240, 241, 256, 257, 258, 259, 53, 260, 261, 262, 263, 264, 265, 184, 185, 186, 187, 115, 188, 190, 0] (by decide +kernel) (by decide +kernel)
set_option maxRecDepth 20000 in
theorem wsL_g8 : GoodIn lw_tbl wsL_law_r8 := goodIn_r _ [191, 47, 192, 193, 194, 195, 196, 197, 198, 199, 468, 469, 470, 471, 472, 474, 13, 475, 454, 476, 477, 478, 479, 480] (by decide +kernel) (by decide +kernel)
set_option maxRecDepth 20000 in
theorem wsL_g9_0 : GoodIn lw_tbl ((wsL_law_r9.drop 0).take 1) := goodIn_r _ [481] (by decide +kernel) (by decide +kernel)
set_option maxRecDepth 20000 in
theorem wsL_g9_1 : GoodIn lw_tbl [Cond.code yL_isProved cL_isProved 17 (some .boolean)] := goodIn_r _ [482] (by decide +kernel) (by decide +kernel)
set_option maxRecDepth 20000 in
theorem wsL_g9_2 : GoodIn lw_tbl ((wsL_law_r9.drop 2).take 22) := goodIn_r _ [422, 423, 424, 425, 483, 484, 485, 486, 487, 488, 489, 490, 299, 300, 301, 302, 491, 492, 493, 494, 95, 275] (by decide +kernel) (by decide +kernel)
theorem wsL_e9 : wsL_law_r9 = ((((wsL_law_r9.drop 0).take 1) ++ [Cond.code yL_isProved cL_isProved 17 (some .boolean)]) ++ ((wsL_law_r9.drop 2).take 22)) := rfl
theorem wsL_g9 : GoodIn lw_tbl wsL_law_r9 := by
  rw [wsL_e9]
  exact (goodIn_app (goodIn_app wsL_g9_0 wsL_g9_1) wsL_g9_2)
set_option maxRecDepth 20000 in
theorem wsL_g10 : GoodIn lw_tbl wsL_law_r10 := goodIn_r _ [276, 277, 278, 96, 279, 280, 282, 5, 283, 495, 496, 497, 498, 266, 267, 268, 269, 80, 133, 270, 271, 272, 273, 46] (by decide +kernel) (by decide +kernel)
set_option maxRecDepth 20000 in
theorem wsL_g11 : GoodIn lw_tbl wsL_law_r11 := goodIn_r _ [274, 284, 285, 286, 287, 288, 289, 290, 291, 292, 293, 294, 23, 295, 296, 297, 298, 303, 304, 305, 306, 307, 308, 309] (by decide +kernel) (by decide +kernel)
set_option maxRecDepth 20000 in
theorem wsL_g12_0 : GoodIn lw_tbl ((wsL_law_r12.drop 0).take 4) := goodIn_r _ [310, 311, 316, 317] (by decide +kernel) (by decide +kernel)
set_option maxRecDepth 20000 in
theorem wsL_g12_1 : GoodIn lw_tbl [Cond.code yL_acts cL_acts 12 (some .boolean)] := goodIn_r _ [318] (by decide +kernel) (by decide +kernel)
set_option maxRecDepth 20000 in
theorem wsL_g12_2 : GoodIn lw_tbl ((wsL_law_r12.drop 5).take 8) := goodIn_r _ [319, 430, 464, 312, 313, 314, 320, 321] (by decide +kernel) (by decide +kernel)
set_option maxRecDepth 20000 in
theorem wsL_g12_3 : GoodIn lw_tbl [Cond.code yL_tables cL_tables 8 (some .boolean)] := goodIn_r _ [322] (by decide +kernel) (by decide +kernel)
set_option maxRecDepth 20000 in
theorem wsL_g12_4 : GoodIn lw_tbl ((wsL_law_r12.drop 14).take 10) := goodIn_r _ [323, 324, 325, 326, 327, 328, 329, 330, 331, 332] (by decide +kernel) (by decide +kernel)
theorem wsL_e12 : wsL_law_r12 = ((((((wsL_law_r12.drop 0).take 4) ++ [Cond.code yL_acts cL_acts 12 (some .boolean)]) ++ ((wsL_law_r12.drop 5).take 8)) ++ [Cond.code yL_tables cL_tables 8 (some .boolean)]) ++ ((wsL_law_r12.drop 14).take 10)) := rfl
theorem wsL_g12 : GoodIn lw_tbl wsL_law_r12 := by
  rw [wsL_e12]
  exact (goodIn_app (goodIn_app (goodIn_app (goodIn_app wsL_g12_0 wsL_g12_1) wsL_g12_2) wsL_g12_3) wsL_g12_4)
set_option maxRecDepth 20000 in
theorem wsL_g13 : GoodIn lw_tbl wsL_law_r13 := goodIn_r _ [333, 79, 334, 336, 6, 337, 338, 339, 340, 341, 342, 343, 344, 345, 346, 347, 348, 349, 350, 351, 352, 353, 354, 355] (by decide +kernel) (by decide +kernel)
set_option maxRecDepth 20000 in
theorem wsL_g14_0 : GoodIn lw_tbl ((wsL_law_r14.drop 0).take 16) := goodIn_r _ [356, 357, 358, 359, 360, 361, 362, 363, 364, 365, 366, 367, 368, 369, 370, 371] (by decide +kernel) (by decide +kernel)
set_option maxRecDepth 20000 in
theorem wsL_g14_1 : GoodIn lw_tbl [Cond.code yL_reads cL_reads 15 (some .boolean)] := goodIn_r _ [372] (by decide +kernel) (by decide +kernel)
set_option maxRecDepth 20000 in
theorem wsL_g14_2 : GoodIn lw_tbl ((wsL_law_r14.drop 17).take 7) := goodIn_r _ [373, 374, 375, 376, 377, 378, 379] (by decide +kernel) (by decide +kernel)
theorem wsL_e14 : wsL_law_r14 = ((((wsL_law_r14.drop 0).take 16) ++ [Cond.code yL_reads cL_reads 15 (some .boolean)]) ++ ((wsL_law_r14.drop 17).take 7)) := rfl
theorem wsL_g14 : GoodIn lw_tbl wsL_law_r14 := by
  rw [wsL_e14]
  exact (goodIn_app (goodIn_app wsL_g14_0 wsL_g14_1) wsL_g14_2)
set_option maxRecDepth 20000 in
theorem wsL_g15 : GoodIn lw_tbl wsL_law_r15 := goodIn_r _ [380, 381, 382, 383, 384, 131, 385, 386, 387, 388, 152, 154, 389, 390, 391, 392, 149, 151, 42, 132, 393, 395, 7, 396] (by decide +kernel) (by decide +kernel)
set_option maxRecDepth 20000 in
theorem wsL_g16 : GoodIn lw_tbl wsL_law_r16 := goodIn_r _ [48, 51, 397, 399, 8, 400, 57, 401, 403, 9, 404, 405, 406, 407, 408, 409, 411, 10, 412, 413, 414, 415, 416, 417] (by decide +kernel) (by decide +kernel)
set_option maxRecDepth 20000 in
theorem wsL_g17 : GoodIn lw_tbl wsL_law_r17 := goodIn_r _ [419, 11, 420, 421, 426, 427, 428, 429, 150, 431, 432, 433, 434, 435, 441, 436, 437, 438, 439, 440, 442, 443, 444, 445] (by decide +kernel) (by decide +kernel)
set_option maxRecDepth 20000 in
theorem wsL_g18 : GoodIn lw_tbl wsL_law_r18 := goodIn_r _ [446, 447, 448, 449, 450, 451, 452, 453, 455, 457, 12, 458, 59, 459, 460, 461, 462, 463] (by decide +kernel) (by decide +kernel)
set_option maxRecDepth 20000 in
theorem wsL_x0 : GoodIn lw_tbl wsX00 := goodIn_of _ (by decide +kernel)
set_option maxRecDepth 20000 in
theorem wsL_x1 : GoodIn lw_tbl wsX10 := goodIn_of _ (by decide +kernel)
set_option maxRecDepth 20000 in
theorem wsL_x2 : GoodIn lw_tbl wsX20 := goodIn_of _ (by decide +kernel)
set_option maxRecDepth 20000 in
theorem wsL_x3 : GoodIn lw_tbl wsX30 := goodIn_of _ (by decide +kernel)
set_option maxRecDepth 20000 in
theorem wsL_x4 : GoodIn lw_tbl wsX40 := goodIn_of _ (by decide +kernel)
set_option maxRecDepth 20000 in
theorem wsL_x5 : GoodIn lw_tbl wsX50 := goodIn_of _ (by decide +kernel)
set_option maxRecDepth 20000 in
theorem wsL_x6 : GoodIn lw_tbl wsX60 := goodIn_of _ (by decide +kernel)
theorem wsL_law_good : GoodIn lw_tbl wsL_law := goodIn_app (goodIn_app (goodIn_app (goodIn_app (goodIn_app (goodIn_app (goodIn_app (goodIn_app (goodIn_app wsL_g1 (goodIn_app wsL_g2 (goodIn_app wsL_g3 (goodIn_app wsL_g4 (goodIn_app wsL_g5 (goodIn_app wsL_g6 (goodIn_app wsL_g7 (goodIn_app wsL_g8 (goodIn_app wsL_g9 (goodIn_app wsL_g10 (goodIn_app wsL_g11 (goodIn_app wsL_g12 (goodIn_app wsL_g13 (goodIn_app wsL_g14 (goodIn_app wsL_g15 (goodIn_app wsL_g16 (goodIn_app wsL_g17 (wsL_g18)))))))))))))))))) wsL_x6) wsL_x4) wsL_x0) wsL_x1) wsL_x2) wsL_x5) wsL_x3) (fun _ h => absurd h List.not_mem_nil)
theorem wsL_law_in : ∀ w ∈ wsL_law, w ∈ lw_tbl := fun w h => (wsL_law_good w h).1
theorem inlX0 : ∀ w ∈ wsX00, w ∈ wsL_law := fun _ h => List.mem_append_left _ (List.mem_append_left _ (List.mem_append_left _ (List.mem_append_left _ (List.mem_append_left _ (List.mem_append_right _ h)))))
theorem inX0 : ∀ w ∈ wsX00, w ∈ lw_tbl := fun w h => wsL_law_in w (inlX0 w h)
theorem inlX1 : ∀ w ∈ wsX10, w ∈ wsL_law := fun _ h => List.mem_append_left _ (List.mem_append_left _ (List.mem_append_left _ (List.mem_append_left _ (List.mem_append_right _ h))))
theorem inX1 : ∀ w ∈ wsX10, w ∈ lw_tbl := fun w h => wsL_law_in w (inlX1 w h)
theorem inlX2 : ∀ w ∈ wsX20, w ∈ wsL_law := fun _ h => List.mem_append_left _ (List.mem_append_left _ (List.mem_append_left _ (List.mem_append_right _ h)))
theorem inX2 : ∀ w ∈ wsX20, w ∈ lw_tbl := fun w h => wsL_law_in w (inlX2 w h)
theorem inlX3 : ∀ w ∈ wsX30, w ∈ wsL_law := fun _ h => List.mem_append_left _ (List.mem_append_right _ h)
theorem inX3 : ∀ w ∈ wsX30, w ∈ lw_tbl := fun w h => wsL_law_in w (inlX3 w h)
theorem inlX4 : ∀ w ∈ wsX40, w ∈ wsL_law := fun _ h => List.mem_append_left _ (List.mem_append_left _ (List.mem_append_left _ (List.mem_append_left _ (List.mem_append_left _ (List.mem_append_left _ (List.mem_append_right _ h))))))
theorem inX4 : ∀ w ∈ wsX40, w ∈ lw_tbl := fun w h => wsL_law_in w (inlX4 w h)
theorem inlX5 : ∀ w ∈ wsX50, w ∈ wsL_law := fun _ h => List.mem_append_left _ (List.mem_append_left _ (List.mem_append_right _ h))
theorem inX5 : ∀ w ∈ wsX50, w ∈ lw_tbl := fun w h => wsL_law_in w (inlX5 w h)
theorem inlX6 : ∀ w ∈ wsX60, w ∈ wsL_law := fun _ h => List.mem_append_left _ (List.mem_append_left _ (List.mem_append_left _ (List.mem_append_left _ (List.mem_append_left _ (List.mem_append_left _ (List.mem_append_left _ (List.mem_append_right _ h)))))))
theorem inX6 : ∀ w ∈ wsX60, w ∈ lw_tbl := fun w h => wsL_law_in w (inlX6 w h)
