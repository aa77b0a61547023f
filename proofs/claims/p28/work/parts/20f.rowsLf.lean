set_option maxRecDepth 20000 in
theorem ggL_law_X6_init : GoodIn wsL_law wsX6_init := goodIn_r _ [7, 8, 9, 10, 11, 12, 13, 14, 15, 16, 17, 18, 19, 20, 21, 22, 23, 24, 25, 26, 27, 28, 29, 30, 31, 32, 33, 34, 35, 36, 37, 38, 3, 39, 40, 41, 42, 43, 44, 45, 46, 47, 48, 49, 50, 51, 52, 53, 54, 55, 56, 57, 58, 59, 60, 61, 62, 63, 64, 65, 66, 67, 68, 69, 70, 71, 72, 73, 74, 75, 76, 77, 432, 433, 434, 435, 426, 427, 428, 429, 430, 431, 436, 437, 438, 439, 440, 441, 442, 443, 444, 445, 446, 447, 448, 449, 450] (by decide +kernel) (by decide +kernel)
set_option maxRecDepth 20000 in
theorem gL_law_X6_init : GoodIn wsL_law (wsX6_init) := ggL_law_X6_init
set_option maxRecDepth 20000 in
theorem gclaw_isSo_h : GoodIn wsL_law [Cond.code yL_isSo cL_isSo 12 (some .boolean)] := goodIn_r _ [81] (by decide +kernel) (by decide +kernel)
set_option maxRecDepth 20000 in
theorem gclaw_isSo_r1 : GoodIn wsL_law wsL_isSo_r1 := goodIn_r _ [82, 83, 84, 2, 85, 22, 14, 26, 86, 87, 88, 89, 90, 91, 92, 93, 94, 21, 95, 53, 96, 97, 98, 13] (by decide +kernel) (by decide +kernel)
set_option maxRecDepth 20000 in
theorem gclaw_isSo_r2 : GoodIn wsL_law wsL_isSo_r2 := goodIn_r _ [99, 100, 101, 102, 103, 104, 56, 105, 106, 107, 108, 109, 110, 111, 112, 113, 114, 115, 116, 117, 118, 119, 120, 121] (by decide +kernel) (by decide +kernel)
set_option maxRecDepth 20000 in
theorem gclaw_isSo_r3 : GoodIn wsL_law wsL_isSo_r3 := goodIn_r _ [122, 123, 124, 125, 126, 127, 128, 129, 130, 131, 132, 133, 134, 25, 135, 61, 136, 63, 62, 137, 138, 139, 140, 141] (by decide +kernel) (by decide +kernel)
set_option maxRecDepth 20000 in
theorem gclaw_isSo_r4 : GoodIn wsL_law wsL_isSo_r4 := goodIn_r _ [142, 143, 144, 145, 146, 147, 148, 41, 149, 150, 151, 152, 153, 154, 155, 156, 157, 158, 159, 160, 161, 162, 163, 164] (by decide +kernel) (by decide +kernel)
set_option maxRecDepth 20000 in
theorem gclaw_isSo_r5 : GoodIn wsL_law wsL_isSo_r5 := goodIn_r _ [165, 166, 167, 168, 169, 170, 171, 172, 173, 174, 175, 176, 177, 178, 179, 180, 181, 182, 183, 184, 185, 186, 187, 188] (by decide +kernel) (by decide +kernel)
set_option maxRecDepth 20000 in
theorem gclaw_isSo_r6 : GoodIn wsL_law wsL_isSo_r6 := goodIn_r _ [189, 190, 39, 191, 192, 80, 193, 3, 194, 195, 196, 197, 198, 199, 200, 201, 202, 203, 204, 205, 206, 207, 208, 209] (by decide +kernel) (by decide +kernel)
set_option maxRecDepth 20000 in
theorem gclaw_isSo_r7 : GoodIn wsL_law wsL_isSo_r7 := goodIn_r _ [210, 211, 212, 213, 214, 215, 216, 217, 218, 219, 54, 220, 221, 222, 223, 224, 225, 226, 227, 228, 229, 230, 231, 232] (by decide +kernel) (by decide +kernel)
set_option maxRecDepth 20000 in
theorem gclaw_isSo_r8 : GoodIn wsL_law wsL_isSo_r8 := goodIn_r _ [18, 233, 30, 234, 235, 236, 237, 238, 239, 240, 241, 242, 243, 244, 245, 246, 247, 248, 249, 250, 251, 252, 253, 254] (by decide +kernel) (by decide +kernel)
set_option maxRecDepth 20000 in
theorem gclaw_isSo_r9 : GoodIn wsL_law wsL_isSo_r9 := goodIn_r _ [255, 256, 257, 258, 259, 260, 261] (by decide +kernel) (by decide +kernel)
set_option maxRecDepth 20000 in
theorem gclaw_isSo_X6 : GoodIn wsL_law wsX60 := goodIn_r _ [426, 427, 428, 429, 430, 431] (by decide +kernel) (by decide +kernel)
set_option maxRecDepth 20000 in
theorem gclaw_isSo_X4 : GoodIn wsL_law wsX40 := goodIn_r _ [432, 433, 434, 435] (by decide +kernel) (by decide +kernel)
set_option maxRecDepth 20000 in
theorem gclaw_isSo_X1 : GoodIn wsL_law wsX10 := goodIn_r _ [438, 439, 440, 441] (by decide +kernel) (by decide +kernel)
set_option maxRecDepth 20000 in
theorem gclaw_isSo_X2 : GoodIn wsL_law wsX20 := goodIn_r _ [442, 443, 444] (by decide +kernel) (by decide +kernel)
set_option maxRecDepth 20000 in
theorem gclaw_isSo_X0 : GoodIn wsL_law wsX00 := goodIn_r _ [436, 437] (by decide +kernel) (by decide +kernel)
set_option maxRecDepth 20000 in
theorem gclaw_isSo_X5 : GoodIn wsL_law wsX50 := goodIn_r _ [445, 446] (by decide +kernel) (by decide +kernel)
theorem ggL_law_L_isSo : GoodIn wsL_law wsL_isSo := goodIn_app (a := [Cond.code yL_isSo cL_isSo 12 (some .boolean)]) gclaw_isSo_h (goodIn_app (goodIn_app (goodIn_app (goodIn_app (goodIn_app (goodIn_app (goodIn_app gclaw_isSo_r1 (goodIn_app gclaw_isSo_r2 (goodIn_app gclaw_isSo_r3 (goodIn_app gclaw_isSo_r4 (goodIn_app gclaw_isSo_r5 (goodIn_app gclaw_isSo_r6 (goodIn_app gclaw_isSo_r7 (goodIn_app gclaw_isSo_r8 (gclaw_isSo_r9))))))))) gclaw_isSo_X6) gclaw_isSo_X4) gclaw_isSo_X1) gclaw_isSo_X2) gclaw_isSo_X0) gclaw_isSo_X5)
set_option maxRecDepth 20000 in
theorem gL_law_L_isSo : GoodIn wsL_law (va_wsS RL 97 yL_isSo wsL_isSo) := goodIn_app (goodIn_of _ (by decide +kernel)) ggL_law_L_isSo
set_option maxRecDepth 20000 in
theorem ggL_law_L_cell : GoodIn wsL_law wsL_cell := goodIn_r _ [264, 265] (by decide +kernel) (by decide +kernel)
set_option maxRecDepth 20000 in
theorem gL_law_L_cell : GoodIn wsL_law (va_wsS RL 100 yL_cell wsL_cell) := goodIn_app (goodIn_of _ (by decide +kernel)) ggL_law_L_cell
set_option maxRecDepth 20000 in
theorem gclaw_acts_h : GoodIn wsL_law [Cond.code yL_acts cL_acts 12 (some .boolean)] := goodIn_r _ [268] (by decide +kernel) (by decide +kernel)
set_option maxRecDepth 20000 in
theorem gclaw_acts_r1 : GoodIn wsL_law wsL_acts_r1 := goodIn_r _ [269, 270, 271, 272, 273, 80, 274, 4, 275, 276, 277, 278, 279, 280, 2, 281, 14, 91, 18, 282, 283, 284, 285, 286] (by decide +kernel) (by decide +kernel)
set_option maxRecDepth 20000 in
theorem gclaw_acts_r2 : GoodIn wsL_law wsL_acts_r2 := goodIn_r _ [287, 17, 288, 289, 47, 290, 291, 292, 293, 294, 295, 296, 13, 297, 100, 239, 39, 41, 298, 299, 300, 301, 302, 303] (by decide +kernel) (by decide +kernel)
set_option maxRecDepth 20000 in
theorem gclaw_acts_r3 : GoodIn wsL_law wsL_acts_r3 := goodIn_r _ [304, 305, 169, 306, 307, 308, 309, 310, 311, 312, 313, 87, 88, 89, 90, 314, 315, 316, 317, 318, 319, 320, 321, 165] (by decide +kernel) (by decide +kernel)
set_option maxRecDepth 20000 in
theorem gclaw_acts_r4 : GoodIn wsL_law wsL_acts_r4 := goodIn_r _ [166, 167, 168, 322, 323, 324, 325, 326, 327, 328, 329, 330, 331, 332, 30, 234, 333, 334, 335, 336, 337, 338, 339, 29] (by decide +kernel) (by decide +kernel)
set_option maxRecDepth 20000 in
theorem gclaw_acts_r5 : GoodIn wsL_law wsL_acts_r5 := goodIn_r _ [340, 69, 341, 342, 343, 344, 345, 34, 346, 347, 22, 348, 349, 350, 33, 351, 352, 353, 76, 354, 74, 355, 356, 357] (by decide +kernel) (by decide +kernel)
set_option maxRecDepth 20000 in
theorem gclaw_acts_r6 : GoodIn wsL_law wsL_acts_r6 := goodIn_r _ [358, 359, 360, 361, 362, 363, 364, 365, 366, 367, 368, 369, 370, 371, 372, 373, 374, 375, 376, 377, 378, 379, 380, 381] (by decide +kernel) (by decide +kernel)
set_option maxRecDepth 20000 in
theorem gclaw_acts_r7 : GoodIn wsL_law wsL_acts_r7 := goodIn_r _ [382, 383, 384, 385, 386, 387, 92, 93, 94, 21, 95, 53, 96, 97, 98, 99, 101, 102, 103, 104, 56, 105, 106, 107] (by decide +kernel) (by decide +kernel)
set_option maxRecDepth 20000 in
theorem gclaw_acts_r8 : GoodIn wsL_law wsL_acts_r8 := goodIn_r _ [108, 109, 110, 111, 112, 113, 114, 115, 116, 117, 118, 119, 120, 121, 122, 123, 124, 125, 194, 195, 196, 197, 388, 389] (by decide +kernel) (by decide +kernel)
set_option maxRecDepth 20000 in
theorem gclaw_acts_r9 : GoodIn wsL_law wsL_acts_r9 := goodIn_r _ [390, 391, 392, 393, 394, 395, 396, 397, 398, 399, 400, 401, 402, 403, 140, 141, 404, 405, 406, 407, 240, 146, 147, 148] (by decide +kernel) (by decide +kernel)
set_option maxRecDepth 20000 in
theorem gclaw_acts_r10 : GoodIn wsL_law wsL_acts_r10 := goodIn_r _ [408, 409, 410, 411, 86, 412, 413, 414, 415, 186, 416, 417, 418, 419, 420, 421, 422, 423, 424, 425] (by decide +kernel) (by decide +kernel)
set_option maxRecDepth 20000 in
theorem gclaw_acts_X6 : GoodIn wsL_law wsX60 := goodIn_r _ [426, 427, 428, 429, 430, 431] (by decide +kernel) (by decide +kernel)
set_option maxRecDepth 20000 in
theorem gclaw_acts_X4 : GoodIn wsL_law wsX40 := goodIn_r _ [432, 433, 434, 435] (by decide +kernel) (by decide +kernel)
set_option maxRecDepth 20000 in
theorem gclaw_acts_X0 : GoodIn wsL_law wsX00 := goodIn_r _ [436, 437] (by decide +kernel) (by decide +kernel)
set_option maxRecDepth 20000 in
theorem gclaw_acts_X5 : GoodIn wsL_law wsX50 := goodIn_r _ [445, 446] (by decide +kernel) (by decide +kernel)
set_option maxRecDepth 20000 in
theorem gclaw_acts_X3 : GoodIn wsL_law wsX30 := goodIn_r _ [447, 448, 449, 450] (by decide +kernel) (by decide +kernel)
set_option maxRecDepth 20000 in
theorem gclaw_acts_X1 : GoodIn wsL_law wsX10 := goodIn_r _ [438, 439, 440, 441] (by decide +kernel) (by decide +kernel)
theorem ggL_law_L_acts : GoodIn wsL_law wsL_acts := goodIn_app (a := [Cond.code yL_acts cL_acts 12 (some .boolean)]) gclaw_acts_h (goodIn_app (goodIn_app (goodIn_app (goodIn_app (goodIn_app (goodIn_app (goodIn_app gclaw_acts_r1 (goodIn_app gclaw_acts_r2 (goodIn_app gclaw_acts_r3 (goodIn_app gclaw_acts_r4 (goodIn_app gclaw_acts_r5 (goodIn_app gclaw_acts_r6 (goodIn_app gclaw_acts_r7 (goodIn_app gclaw_acts_r8 (goodIn_app gclaw_acts_r9 (gclaw_acts_r10)))))))))) gclaw_acts_X6) gclaw_acts_X4) gclaw_acts_X0) gclaw_acts_X5) gclaw_acts_X3) gclaw_acts_X1)
set_option maxRecDepth 20000 in
theorem gL_law_L_acts : GoodIn wsL_law (va_wsS RL 104 yL_acts wsL_acts) := goodIn_app (goodIn_of _ (by decide +kernel)) ggL_law_L_acts
set_option maxRecDepth 20000 in
theorem ggL_law_L_low : GoodIn wsL_law wsL_low := goodIn_r _ [274, 4] (by decide +kernel) (by decide +kernel)
set_option maxRecDepth 20000 in
theorem gL_law_L_low : GoodIn wsL_law (va_wsS RL 41 yL_low wsL_low) := goodIn_app (goodIn_of _ (by decide +kernel)) ggL_law_L_low
set_option maxRecDepth 20000 in
theorem ggL_law_X6_count : GoodIn wsL_law wsX6_count := goodIn_r _ [232, 14, 91, 169, 22, 26, 18, 233, 30, 234, 235, 236, 237, 13, 238, 100, 239, 240, 146, 147, 148, 41, 215, 216, 217, 21, 218, 219, 53, 110, 54, 220, 93, 94, 95, 96, 97, 98, 99, 101, 102, 103, 104, 56, 105, 106, 107, 108, 109, 111, 112, 113, 114, 115, 116, 117, 118, 119, 120, 121, 122, 123, 124, 125, 221, 222, 223, 224, 241, 242, 243, 244, 132, 133, 134, 25, 135, 61, 136, 63, 62, 137, 138, 139, 140, 141, 142, 143, 127, 128, 129, 130, 144, 145, 245, 246, 247, 248, 249, 156, 157, 158, 159, 150, 151, 152, 153, 154, 250, 251, 252, 253, 254, 255, 256, 206, 207, 208, 209, 257, 258, 259, 260, 261, 171, 172, 173, 174, 175, 176, 177, 426, 427, 428, 429, 430, 431, 432, 433, 434, 435, 436, 437, 445, 446, 438, 439, 440, 441, 442, 443, 444] (by decide +kernel) (by decide +kernel)
set_option maxRecDepth 20000 in
theorem gL_law_X6_count : GoodIn wsL_law (wsV RL 86 RX6 yX6_count wsX6_count) := goodIn_app (goodIn_of _ (by decide +kernel)) ggL_law_X6_count
set_option maxRecDepth 20000 in
theorem ggL_law_X6_price : GoodIn wsL_law wsX6_price := goodIn_r _ [163, 26, 164, 165, 166, 167, 2, 168, 14, 169, 170, 171, 172, 25, 173, 62, 174, 175, 176, 21, 177, 53, 56, 96, 97, 98, 13, 99, 100, 105, 106, 107, 108, 109, 110, 111, 112, 113, 114, 115, 116, 117, 118, 119, 120, 121, 122, 123, 124, 125, 132, 133, 134, 135, 61, 136, 63, 137, 138, 139, 140, 141, 142, 93, 94, 95, 101, 102, 103, 104, 143, 127, 128, 129, 130, 144, 145, 146, 147, 148, 41, 426, 427, 428, 429, 430, 431, 442, 443, 444, 432, 433, 434, 435, 438, 439, 440, 441] (by decide +kernel) (by decide +kernel)
set_option maxRecDepth 20000 in
theorem gL_law_X6_price : GoodIn wsL_law (wsV RL 74 RX6 yX6_price wsX6_price) := goodIn_app (goodIn_of _ (by decide +kernel)) ggL_law_X6_price
set_option maxRecDepth 20000 in
theorem ggL_law_X6_workerIs : GoodIn wsL_law wsX6_workerIs := goodIn_r _ [85, 22, 14, 26, 86, 87, 88, 89, 2, 90, 91, 92, 93, 94, 21, 95, 53, 96, 97, 98, 13, 99, 100, 101, 102, 103, 104, 56, 105, 106, 107, 108, 109, 110, 111, 112, 113, 114, 115, 116, 117, 118, 119, 120, 121, 122, 123, 124, 125, 126, 127, 128, 129, 130, 131, 132, 133, 134, 25, 135, 61, 136, 63, 62, 137, 138, 139, 140, 141, 142, 143, 144, 145, 146, 147, 148, 41, 149, 150, 151, 152, 153, 154, 155, 156, 157, 158, 159, 426, 427, 428, 429, 430, 431, 432, 433, 434, 435, 438, 439, 440, 441, 442, 443, 444] (by decide +kernel) (by decide +kernel)
set_option maxRecDepth 20000 in
theorem gL_law_X6_workerIs : GoodIn wsL_law (wsV RL 83 RX6 yX6_workerIs wsX6_workerIs) := goodIn_app (goodIn_of _ (by decide +kernel)) ggL_law_X6_workerIs
theorem dL_law_0 : decode cL_law 0 = .ok (.new 10, 3) := by decide +kernel
theorem dL_law_3 : decode cL_law 3 = .ok (.dup, 1) := by decide +kernel
theorem dL_law_4 : decode cL_law 4 = .ok (.invokespecial 96, 3) := by decide +kernel
theorem dL_law_7 : decode cL_law 7 = .ok (.astore_n 1, 1) := by decide +kernel
theorem dL_law_8 : decode cL_law 8 = .ok (.iconst 2, 1) := by decide +kernel
theorem dL_law_9 : decode cL_law 9 = .ok (.newarray .int, 2) := by decide +kernel
theorem dL_law_11 : decode cL_law 11 = .ok (.astore_n 2, 1) := by decide +kernel
theorem dL_law_12 : decode cL_law 12 = .ok (.bipush 49, 2) := by decide +kernel
theorem dL_law_14 : decode cL_law 14 = .ok (.newarray .int, 2) := by decide +kernel
theorem dL_law_16 : decode cL_law 16 = .ok (.astore_n 3, 1) := by decide +kernel
theorem dL_law_17 : decode cL_law 17 = .ok (.bipush 7, 2) := by decide +kernel
theorem dL_law_19 : decode cL_law 19 = .ok (.newarray .int, 2) := by decide +kernel
theorem dL_law_21 : decode cL_law 21 = .ok (.astore 4, 2) := by decide +kernel
theorem dL_law_23 : decode cL_law 23 = .ok (.aload_n 1, 1) := by decide +kernel
theorem dL_law_24 : decode cL_law 24 = .ok (.aload_n 2, 1) := by decide +kernel
theorem dL_law_25 : decode cL_law 25 = .ok (.aload_n 3, 1) := by decide +kernel
theorem dL_law_26 : decode cL_law 26 = .ok (.aload 4, 2) := by decide +kernel
theorem dL_law_28 : decode cL_law 28 = .ok (.invokestatic 97, 3) := by decide +kernel
theorem dL_law_31 : decode cL_law 31 = .ok (.istore 5, 2) := by decide +kernel
theorem dL_law_33 : decode cL_law 33 = .ok (.iconst 0, 1) := by decide +kernel
theorem dL_law_34 : decode cL_law 34 = .ok (.istore 6, 2) := by decide +kernel
theorem dL_law_36 : decode cL_law 36 = .ok (.iload 6, 2) := by decide +kernel
theorem dL_law_38 : decode cL_law 38 = .ok (.iconst 4, 1) := by decide +kernel
theorem dL_law_39 : decode cL_law 39 = .ok (.if_icmp .ge 55, 3) := by decide +kernel
theorem dL_law_42 : decode cL_law 42 = .ok (.iload 5, 2) := by decide +kernel
theorem dL_law_44 : decode cL_law 44 = .ok (.ifCond .eq 50, 3) := by decide +kernel
theorem dL_law_47 : decode cL_law 47 = .ok (.aload_n 1, 1) := by decide +kernel
theorem dL_law_48 : decode cL_law 48 = .ok (.aload_n 2, 1) := by decide +kernel
theorem dL_law_49 : decode cL_law 49 = .ok (.aload_n 3, 1) := by decide +kernel
theorem dL_law_50 : decode cL_law 50 = .ok (.aload 4, 2) := by decide +kernel
theorem dL_law_52 : decode cL_law 52 = .ok (.aload_n 0, 1) := by decide +kernel
theorem dL_law_53 : decode cL_law 53 = .ok (.iconst 1, 1) := by decide +kernel
theorem dL_law_54 : decode cL_law 54 = .ok (.iload 6, 2) := by decide +kernel
theorem dL_law_56 : decode cL_law 56 = .ok (.iadd, 1) := by decide +kernel
theorem dL_law_57 : decode cL_law 57 = .ok (.invokestatic 100, 3) := by decide +kernel
theorem dL_law_60 : decode cL_law 60 = .ok (.ldc 8, 2) := by decide +kernel
theorem dL_law_62 : decode cL_law 62 = .ok (.iand, 1) := by decide +kernel
theorem dL_law_63 : decode cL_law 63 = .ok (.sipush 832, 3) := by decide +kernel
theorem dL_law_66 : decode cL_law 66 = .ok (.idiv, 1) := by decide +kernel
theorem dL_law_67 : decode cL_law 67 = .ok (.sipush 832, 3) := by decide +kernel
theorem dL_law_70 : decode cL_law 70 = .ok (.imul, 1) := by decide +kernel
theorem dL_law_71 : decode cL_law 71 = .ok (.iload 6, 2) := by decide +kernel
theorem dL_law_73 : decode cL_law 73 = .ok (.ifCond .ne 7, 3) := by decide +kernel
theorem dL_law_76 : decode cL_law 76 = .ok (.iconst 5, 1) := by decide +kernel
theorem dL_law_77 : decode cL_law 77 = .ok (.goto 5, 3) := by decide +kernel
theorem dL_law_80 : decode cL_law 80 = .ok (.iload 6, 2) := by decide +kernel
theorem dL_law_82 : decode cL_law 82 = .ok (.iadd, 1) := by decide +kernel
theorem dL_law_83 : decode cL_law 83 = .ok (.invokestatic 104, 3) := by decide +kernel
theorem dL_law_86 : decode cL_law 86 = .ok (.istore 5, 2) := by decide +kernel
theorem dL_law_88 : decode cL_law 88 = .ok (.iinc 6 1, 3) := by decide +kernel
theorem dL_law_91 : decode cL_law 91 = .ok (.goto (-55), 3) := by decide +kernel
theorem dL_law_94 : decode cL_law 94 = .ok (.bipush 8, 2) := by decide +kernel
theorem dL_law_96 : decode cL_law 96 = .ok (.aload_n 0, 1) := by decide +kernel
theorem dL_law_97 : decode cL_law 97 = .ok (.iconst 0, 1) := by decide +kernel
theorem dL_law_98 : decode cL_law 98 = .ok (.invokestatic 100, 3) := by decide +kernel
theorem dL_law_101 : decode cL_law 101 = .ok (.bipush 40, 2) := by decide +kernel
theorem dL_law_103 : decode cL_law 103 = .ok (.invokestatic 41, 3) := by decide +kernel
theorem dL_law_106 : decode cL_law 106 = .ok (.iadd, 1) := by decide +kernel
theorem dL_law_107 : decode cL_law 107 = .ok (.istore 6, 2) := by decide +kernel
theorem dL_law_109 : decode cL_law 109 = .ok (.iconst 0, 1) := by decide +kernel
theorem dL_law_110 : decode cL_law 110 = .ok (.istore 7, 2) := by decide +kernel
theorem dL_law_112 : decode cL_law 112 = .ok (.iload 7, 2) := by decide +kernel
theorem dL_law_114 : decode cL_law 114 = .ok (.iload 6, 2) := by decide +kernel
theorem dL_law_116 : decode cL_law 116 = .ok (.if_icmp .ge 58, 3) := by decide +kernel
theorem dL_law_119 : decode cL_law 119 = .ok (.iload 5, 2) := by decide +kernel
theorem dL_law_121 : decode cL_law 121 = .ok (.ifCond .eq 53, 3) := by decide +kernel
theorem dL_law_124 : decode cL_law 124 = .ok (.aload_n 1, 1) := by decide +kernel
theorem dL_law_125 : decode cL_law 125 = .ok (.aload_n 2, 1) := by decide +kernel
theorem dL_law_126 : decode cL_law 126 = .ok (.aload_n 3, 1) := by decide +kernel
theorem dL_law_127 : decode cL_law 127 = .ok (.aload 4, 2) := by decide +kernel
theorem dL_law_129 : decode cL_law 129 = .ok (.aload_n 0, 1) := by decide +kernel
theorem dL_law_130 : decode cL_law 130 = .ok (.iconst 5, 1) := by decide +kernel
theorem dL_law_131 : decode cL_law 131 = .ok (.iload 7, 2) := by decide +kernel
theorem dL_law_133 : decode cL_law 133 = .ok (.iadd, 1) := by decide +kernel
theorem dL_law_134 : decode cL_law 134 = .ok (.invokestatic 100, 3) := by decide +kernel
theorem dL_law_137 : decode cL_law 137 = .ok (.sipush 7919, 3) := by decide +kernel
theorem dL_law_140 : decode cL_law 140 = .ok (.iload 7, 2) := by decide +kernel
theorem dL_law_142 : decode cL_law 142 = .ok (.imul, 1) := by decide +kernel
theorem dL_law_143 : decode cL_law 143 = .ok (.ixor, 1) := by decide +kernel
theorem dL_law_144 : decode cL_law 144 = .ok (.invokestatic 104, 3) := by decide +kernel
theorem dL_law_147 : decode cL_law 147 = .ok (.ifCond .eq 18, 3) := by decide +kernel
theorem dL_law_150 : decode cL_law 150 = .ok (.aload_n 1, 1) := by decide +kernel
theorem dL_law_151 : decode cL_law 151 = .ok (.aload_n 2, 1) := by decide +kernel
theorem dL_law_152 : decode cL_law 152 = .ok (.aload_n 3, 1) := by decide +kernel
theorem dL_law_153 : decode cL_law 153 = .ok (.aload 4, 2) := by decide +kernel
theorem dL_law_155 : decode cL_law 155 = .ok (.invokestatic 97, 3) := by decide +kernel
theorem dL_law_158 : decode cL_law 158 = .ok (.ifCond .eq 7, 3) := by decide +kernel
theorem dL_law_161 : decode cL_law 161 = .ok (.iconst 1, 1) := by decide +kernel
theorem dL_law_162 : decode cL_law 162 = .ok (.goto 4, 3) := by decide +kernel
theorem dL_law_165 : decode cL_law 165 = .ok (.iconst 0, 1) := by decide +kernel
theorem dL_law_166 : decode cL_law 166 = .ok (.istore 5, 2) := by decide +kernel
theorem dL_law_168 : decode cL_law 168 = .ok (.iinc 7 1, 3) := by decide +kernel
theorem dL_law_171 : decode cL_law 171 = .ok (.goto (-59), 3) := by decide +kernel
theorem dL_law_174 : decode cL_law 174 = .ok (.iload 5, 2) := by decide +kernel
theorem dL_law_176 : decode cL_law 176 = .ok (.ifCond .eq 37, 3) := by decide +kernel
theorem dL_law_179 : decode cL_law 179 = .ok (.aload_n 1, 1) := by decide +kernel
theorem dL_law_180 : decode cL_law 180 = .ok (.bipush 9, 2) := by decide +kernel
theorem dL_law_182 : decode cL_law 182 = .ok (.invokevirtual 86, 3) := by decide +kernel
theorem dL_law_185 : decode cL_law 185 = .ok (.iconst (-1), 1) := by decide +kernel
theorem dL_law_186 : decode cL_law 186 = .ok (.if_icmp .ne 27, 3) := by decide +kernel
theorem dL_law_189 : decode cL_law 189 = .ok (.aload_n 1, 1) := by decide +kernel
theorem dL_law_190 : decode cL_law 190 = .ok (.iconst (-1), 1) := by decide +kernel
theorem dL_law_191 : decode cL_law 191 = .ok (.iconst 0, 1) := by decide +kernel
theorem dL_law_192 : decode cL_law 192 = .ok (.invokevirtual 74, 3) := by decide +kernel
theorem dL_law_195 : decode cL_law 195 = .ok (.iconst (-1), 1) := by decide +kernel
theorem dL_law_196 : decode cL_law 196 = .ok (.if_icmp .ne 17, 3) := by decide +kernel
theorem dL_law_199 : decode cL_law 199 = .ok (.aload_n 1, 1) := by decide +kernel
theorem dL_law_200 : decode cL_law 200 = .ok (.iconst (-1), 1) := by decide +kernel
theorem dL_law_201 : decode cL_law 201 = .ok (.iconst 0, 1) := by decide +kernel
theorem dL_law_202 : decode cL_law 202 = .ok (.invokevirtual 83, 3) := by decide +kernel
theorem dL_law_205 : decode cL_law 205 = .ok (.iconst (-1), 1) := by decide +kernel
theorem dL_law_206 : decode cL_law 206 = .ok (.if_icmp .ne 7, 3) := by decide +kernel
theorem dL_law_209 : decode cL_law 209 = .ok (.iconst 1, 1) := by decide +kernel
theorem dL_law_210 : decode cL_law 210 = .ok (.goto 4, 3) := by decide +kernel
theorem dL_law_213 : decode cL_law 213 = .ok (.iconst 0, 1) := by decide +kernel
theorem dL_law_214 : decode cL_law 214 = .ok (.ireturn, 1) := by decide +kernel
