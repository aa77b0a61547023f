/-! the words of the law, out of the tables: 1 to 10 -/
set_option maxRecDepth 20000 in
theorem wsL_g1 : GoodIn lw_tbl wsL_law_r1 := goodIn_r _ [55, 56, 45, 555, 556, 52, 57, 58, 59, 60, 61, 62, 63, 64, 46, 196, 101, 102, 47, 197, 118, 119, 48, 198] (by decide +kernel) (by decide +kernel)
set_option maxRecDepth 20000 in
theorem wsL_g2 : GoodIn lw_tbl wsL_law_r2 := goodIn_r _ [139, 140, 49, 199, 156, 157, 50, 200, 172, 173, 51, 201, 65, 66, 67, 68, 100, 81, 69, 86, 103, 104, 105, 106] (by decide +kernel) (by decide +kernel)
set_option maxRecDepth 20000 in
theorem wsL_g3 : GoodIn lw_tbl wsL_law_r3 := goodIn_r _ [107, 112, 109, 120, 121, 122, 123, 128, 125, 124, 129, 141, 142, 143, 144, 147, 148, 145, 158, 159, 160, 161, 171, 165] (by decide +kernel) (by decide +kernel)
set_option maxRecDepth 20000 in
theorem wsL_g4 : GoodIn lw_tbl wsL_law_r4 := goodIn_r _ [174, 175, 176, 177, 186, 178, 184, 179, 557, 558, 559, 560, 561, 562, 564, 566, 567, 568, 569, 570, 571, 577, 578, 563] (by decide +kernel) (by decide +kernel)
set_option maxRecDepth 20000 in
theorem wsL_g5 : GoodIn lw_tbl wsL_law_r5 := goodIn_r _ [215, 216, 217, 218, 72, 219, 220, 221, 222, 223, 224, 225, 110, 226, 228, 0, 229, 230, 231, 232, 233, 71, 77, 234] (by decide +kernel) (by decide +kernel)
set_option maxRecDepth 20000 in
theorem wsL_g6 : GoodIn lw_tbl wsL_law_r6 := goodIn_r _ [235, 236, 237, 616, 617, 618, 619, 620, 621, 622, 623, 625, 14, 626, 238, 239, 240, 241, 78, 242, 243, 244, 245, 627] (by decide +kernel) (by decide +kernel)
set_option maxRecDepth 20000 in
theorem wsL_g7 : GoodIn lw_tbl wsL_law_r7 := goodIn_r _ [628, 629, 630, 246, 247, 248, 249, 250, 252, 1, 253, 254, 255, 256, 257, 631, 632, 633, 634, 635, 637, 15, 638, 639] (by decide +kernel) (by decide +kernel)
set_option maxRecDepth 20000 in
theorem wsL_g8 : GoodIn lw_tbl wsL_law_r8 := goodIn_r _ [641, 16, 642, 258, 259, 260, 261, 262, 264, 2, 265, 266, 267, 268, 269, 643, 644, 645, 646, 647, 649, 17, 650, 270] (by decide +kernel) (by decide +kernel)
set_option maxRecDepth 20000 in
theorem wsL_g9 : GoodIn lw_tbl wsL_law_r9 := goodIn_r _ [271, 272, 273, 274, 275, 277, 3, 278, 90, 279, 280, 281, 282, 283, 284, 285, 286, 287, 288, 289, 290, 291, 293, 4] (by decide +kernel) (by decide +kernel)
set_option maxRecDepth 20000 in
theorem wsL_g10 : GoodIn lw_tbl wsL_law_r10 := goodIn_r _ [294, 80, 75, 295, 297, 5, 298, 83, 304, 305, 53, 306, 299, 301, 6, 302, 89, 303, 651, 652, 653, 654, 676, 655] (by decide +kernel) (by decide +kernel)
