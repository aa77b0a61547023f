/-! the words of the law, out of the tables: 11 to 20 -/
set_option maxRecDepth 20000 in
theorem wsL_g11 : GoodIn lw_tbl wsL_law_r11 := goodIn_r _ [657, 18, 658, 659, 661, 19, 662, 663, 665, 20, 666, 667, 669, 21, 670, 671, 672, 674, 22, 675, 307, 308, 309, 310] (by decide +kernel) (by decide +kernel)
set_option maxRecDepth 20000 in
theorem wsL_g12 : GoodIn lw_tbl wsL_law_r12 := goodIn_r _ [311, 312, 313, 314, 677, 678, 679, 680, 315, 316, 317, 318, 85, 681, 682, 683, 684, 319, 320, 321, 322, 323, 331, 324] (by decide +kernel) (by decide +kernel)
set_option maxRecDepth 20000 in
theorem wsL_g13 : GoodIn lw_tbl wsL_law_r13 := goodIn_r _ [325, 326, 327, 328, 329, 330, 332, 333, 334, 335, 336, 685, 686, 687, 688, 689, 694, 690, 692, 23, 693, 337, 338, 339] (by decide +kernel) (by decide +kernel)
set_option maxRecDepth 20000 in
theorem wsL_g14 : GoodIn lw_tbl wsL_law_r14 := goodIn_r _ [340, 341, 343, 7, 344, 345, 346, 347, 348, 695, 696, 697, 698, 349, 350, 351, 352, 699, 700, 701, 702, 353, 354, 355] (by decide +kernel) (by decide +kernel)
set_option maxRecDepth 20000 in
theorem wsL_g15 : GoodIn lw_tbl wsL_law_r15 := goodIn_r _ [356, 126, 357, 358, 359, 360, 127, 361, 362, 364, 8, 365, 703, 704, 705, 706, 707, 709, 24, 710, 366, 367, 368, 369] (by decide +kernel) (by decide +kernel)
set_option maxRecDepth 20000 in
theorem wsL_g16 : GoodIn lw_tbl wsL_law_r16 := goodIn_r _ [711, 712, 713, 714, 370, 371, 372, 373, 374, 715, 716, 717, 718, 375, 376, 377, 378, 146, 379, 380, 381, 382, 383, 384] (by decide +kernel) (by decide +kernel)
set_option maxRecDepth 20000 in
theorem wsL_g17 : GoodIn lw_tbl wsL_law_r17 := goodIn_r _ [385, 386, 387, 388, 389, 390, 76, 74, 87, 399, 391, 392, 393, 394, 395, 396, 397, 398, 719, 720, 721, 722, 723, 725] (by decide +kernel) (by decide +kernel)
set_option maxRecDepth 20000 in
theorem wsL_g18 : GoodIn lw_tbl wsL_law_r18 := goodIn_r _ [25, 726, 727, 729, 26, 730, 400, 401, 402, 403, 404, 405, 406, 407, 408, 84, 409, 410, 411, 412, 413, 414, 731, 732] (by decide +kernel) (by decide +kernel)
set_option maxRecDepth 20000 in
theorem wsL_g19 : GoodIn lw_tbl wsL_law_r19 := goodIn_r _ [733, 734, 735, 737, 27, 738, 739, 741, 28, 742, 743, 745, 29, 746, 415, 416, 417, 418, 419, 420, 421, 422, 423, 424] (by decide +kernel) (by decide +kernel)
set_option maxRecDepth 20000 in
theorem wsL_g20 : GoodIn lw_tbl wsL_law_r20 := goodIn_r _ [425, 426, 747, 748, 749, 750, 427, 428, 429, 430, 431, 432, 433, 434, 435, 436, 437, 438, 439, 440, 441, 442, 443, 444] (by decide +kernel) (by decide +kernel)
