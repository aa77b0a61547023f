/-! the law: its calls' words -/
set_option maxRecDepth 20000 in
theorem ggL_law_X7_proof : GoodIn wsL_law wsX7_proof := goodIn_r _ [461, 84, 434, 435, 436, 5, 437, 92, 406, 407, 408, 409, 88, 243, 244, 245, 246, 247, 248, 249, 250, 251, 252, 253, 254, 87, 255, 256, 257, 258, 259, 89, 90, 167, 168, 169, 170, 239, 240, 241, 242, 438, 439, 440, 441, 708, 709, 710, 711, 712, 713, 714, 715, 716, 717, 718, 719, 720, 721, 722, 723, 724, 725] (by decide +kernel) (by decide +kernel)
set_option maxRecDepth 20000 in
theorem gL_law_X7_proof : GoodIn wsL_law (wsV RL 80 RX7 yX7_proof wsX7_proof) := goodIn_app (goodIn_of _ (by decide +kernel)) ggL_law_X7_proof
set_option maxRecDepth 20000 in
theorem ggL_law_X6_pairOf : GoodIn wsL_law wsX6_pairOf := goodIn_r _ [465, 15, 23, 151, 152, 153, 2, 154, 100, 313, 314, 315, 316, 175, 176, 177, 178, 138, 264, 265, 266, 14, 267, 43, 201, 202, 203, 22, 204, 55, 205, 206, 207, 208, 117, 209, 210, 211, 212, 58, 213, 214, 215, 216, 217, 218, 219, 220, 221, 222, 223, 224, 225, 226, 227, 228, 229, 230, 231, 232, 233, 466, 467, 468, 469, 470, 396, 397, 398, 399, 471, 472, 473, 474, 475, 318, 319, 320, 41, 476, 477, 478, 479, 480, 481, 702, 703, 704, 705, 706, 707, 726, 727, 728, 729, 732, 733, 734, 735] (by decide +kernel) (by decide +kernel)
set_option maxRecDepth 20000 in
theorem gL_law_X6_pairOf : GoodIn wsL_law (wsV RL 81 RX6 yX6_pairOf wsX6_pairOf) := goodIn_app (goodIn_of _ (by decide +kernel)) ggL_law_X6_pairOf
set_option maxRecDepth 20000 in
theorem ggL_law_X7_pairOf : GoodIn wsL_law wsX7_pairOf := goodIn_r _ [485, 163, 164, 165, 5, 166, 84, 187, 188, 189, 190, 127, 128, 129, 167, 168, 169, 170, 239, 240, 241, 242, 243, 244, 245, 246, 247, 248, 249, 250, 251, 252, 253, 254, 87, 255, 256, 257, 258, 259, 89, 90, 88, 486, 487, 488, 489, 490, 491, 492, 493, 494, 495, 496, 497, 708, 709, 710, 711, 712, 713, 714, 715, 716, 717, 718, 719, 720, 721, 722, 723, 724, 725] (by decide +kernel) (by decide +kernel)
set_option maxRecDepth 20000 in
theorem gL_law_X7_pairOf : GoodIn wsL_law (wsV RL 84 RX7 yX7_pairOf wsX7_pairOf) := goodIn_app (goodIn_of _ (by decide +kernel)) ggL_law_X7_pairOf
set_option maxRecDepth 20000 in
theorem ggL_law_X6_room : GoodIn wsL_law wsX6_room := goodIn_r _ [501, 23, 337, 151, 152, 153, 2, 154, 15, 100, 338, 339, 340, 22, 341, 342, 55, 218, 56, 343, 202, 203, 204, 205, 206, 207, 14, 208, 117, 209, 210, 211, 212, 58, 213, 214, 215, 216, 217, 219, 220, 221, 222, 223, 224, 225, 226, 227, 228, 229, 230, 231, 232, 233, 344, 345, 346, 347, 502, 503, 504, 505, 506, 467, 468, 469, 470, 396, 397, 398, 399, 507, 477, 478, 479, 480, 265, 266, 267, 43, 481, 472, 473, 474, 475, 318, 319, 320, 41, 702, 703, 704, 705, 706, 707, 732, 733, 734, 735, 726, 727, 728, 729] (by decide +kernel) (by decide +kernel)
set_option maxRecDepth 20000 in
theorem gL_law_X6_room : GoodIn wsL_law (wsV RL 85 RX6 yX6_room wsX6_room) := goodIn_app (goodIn_of _ (by decide +kernel)) ggL_law_X6_room
set_option maxRecDepth 20000 in
theorem ggL_law_X7_room : GoodIn wsL_law wsX7_room := goodIn_r _ [511, 91, 163, 164, 165, 5, 166, 84, 352, 353, 354, 355, 239, 240, 241, 242, 243, 244, 245, 246, 247, 248, 249, 250, 251, 252, 253, 254, 87, 255, 256, 257, 258, 259, 89, 90, 88, 167, 168, 169, 170, 512, 513, 514, 515, 494, 495, 496, 497, 708, 709, 710, 711, 712, 713, 714, 715, 716, 717, 718, 719, 720, 721, 722, 723, 724, 725] (by decide +kernel) (by decide +kernel)
set_option maxRecDepth 20000 in
theorem gL_law_X7_room : GoodIn wsL_law (wsV RL 88 RX7 yX7_room wsX7_room) := goodIn_app (goodIn_of _ (by decide +kernel)) ggL_law_X7_room
set_option maxRecDepth 20000 in
theorem ggL_law_X6_dearest : GoodIn wsL_law wsX6_dearest := goodIn_r _ [519, 23, 337, 338, 339, 340, 22, 341, 342, 55, 218, 56, 343, 202, 203, 204, 205, 206, 207, 14, 208, 117, 209, 210, 211, 212, 58, 213, 214, 215, 216, 217, 219, 220, 221, 222, 223, 224, 225, 226, 227, 228, 229, 230, 231, 232, 233, 344, 345, 346, 347, 520, 521, 522, 523, 524, 503, 504, 505, 506, 467, 468, 469, 470, 396, 397, 398, 399, 507, 477, 478, 479, 480, 265, 266, 267, 43, 481, 472, 473, 474, 475, 318, 319, 320, 41, 151, 152, 153, 2, 154, 15, 100, 502, 702, 703, 704, 705, 706, 707, 732, 733, 734, 735, 726, 727, 728, 729] (by decide +kernel) (by decide +kernel)
set_option maxRecDepth 20000 in
theorem gL_law_X6_dearest : GoodIn wsL_law (wsV RL 89 RX6 yX6_dearest wsX6_dearest) := goodIn_app (goodIn_of _ (by decide +kernel)) ggL_law_X6_dearest
set_option maxRecDepth 20000 in
theorem ggL_law_X7_dearest : GoodIn wsL_law wsX7_dearest := goodIn_r _ [528, 84, 91, 127, 128, 5, 129, 352, 353, 354, 355, 239, 240, 241, 242, 243, 244, 245, 246, 247, 248, 249, 250, 251, 252, 253, 254, 87, 255, 256, 257, 258, 259, 89, 90, 88, 167, 168, 169, 170, 512, 513, 514, 515, 494, 495, 496, 497, 708, 709, 710, 711, 712, 713, 714, 715, 716, 717, 718, 719, 720, 721, 722, 723, 724, 725] (by decide +kernel) (by decide +kernel)
set_option maxRecDepth 20000 in
theorem gL_law_X7_dearest : GoodIn wsL_law (wsV RL 92 RX7 yX7_dearest wsX7_dearest) := goodIn_app (goodIn_of _ (by decide +kernel)) ggL_law_X7_dearest
set_option maxRecDepth 20000 in
theorem ggL_law_X6_count : GoodIn wsL_law wsX6_count := goodIn_r _ [532, 15, 100, 138, 23, 27, 19, 533, 31, 534, 535, 536, 537, 14, 538, 117, 118, 298, 265, 266, 267, 43, 338, 339, 340, 22, 341, 342, 55, 218, 56, 343, 202, 203, 204, 205, 206, 207, 208, 209, 210, 211, 212, 58, 213, 214, 215, 216, 217, 219, 220, 221, 222, 223, 224, 225, 226, 227, 228, 229, 230, 231, 232, 233, 344, 345, 346, 347, 539, 540, 541, 542, 386, 387, 388, 26, 389, 63, 390, 65, 64, 391, 392, 393, 292, 293, 394, 395, 396, 397, 398, 399, 400, 401, 543, 544, 545, 546, 547, 426, 427, 428, 429, 420, 421, 422, 423, 424, 548, 549, 550, 551, 552, 553, 554, 454, 455, 456, 457, 555, 556, 557, 558, 559, 379, 380, 381, 382, 383, 384, 385, 702, 703, 704, 705, 706, 707, 726, 727, 728, 729, 730, 731, 739, 740, 732, 733, 734, 735, 736, 737, 738] (by decide +kernel) (by decide +kernel)
set_option maxRecDepth 20000 in
theorem gL_law_X6_count : GoodIn wsL_law (wsV RL 93 RX6 yX6_count wsX6_count) := goodIn_app (goodIn_of _ (by decide +kernel)) ggL_law_X6_count
set_option maxRecDepth 20000 in
theorem ggL_law_X7_count : GoodIn wsL_law wsX7_count := goodIn_r _ [563, 84, 95, 564, 565, 566, 567, 5, 568, 167, 168, 169, 170, 569, 570, 571, 572, 91, 352, 353, 354, 355, 239, 240, 241, 242, 243, 244, 245, 246, 247, 248, 249, 250, 251, 252, 253, 254, 87, 255, 256, 257, 258, 259, 89, 90, 88, 573, 574, 575, 576, 434, 435, 436, 437, 92, 406, 407, 408, 409, 442, 443, 444, 445, 438, 439, 440, 441, 577, 578, 579, 580, 410, 411, 412, 413, 708, 709, 710, 711, 712, 713, 714, 715, 716, 717, 718, 719, 720, 721, 722, 723, 724, 725] (by decide +kernel) (by decide +kernel)
set_option maxRecDepth 20000 in
theorem gL_law_X7_count : GoodIn wsL_law (wsV RL 96 RX7 yX7_count wsX7_count) := goodIn_app (goodIn_of _ (by decide +kernel)) ggL_law_X7_count
set_option maxRecDepth 20000 in
theorem ggL_law_X6_undo : GoodIn wsL_law wsX6_undo := goodIn_r _ [584, 19, 533, 15, 585, 586, 587, 18, 588, 108, 49, 113, 114, 115, 14, 116, 117, 118, 41, 43, 702, 703, 704, 705, 706, 707, 730, 731, 726, 727, 728, 729] (by decide +kernel) (by decide +kernel)
set_option maxRecDepth 20000 in
theorem gL_law_X6_undo : GoodIn wsL_law (wsV RL 97 RX6 yX6_undo wsX6_undo) := goodIn_app (goodIn_of _ (by decide +kernel)) ggL_law_X6_undo
set_option maxRecDepth 20000 in
theorem ggL_law_X7_undo : GoodIn wsL_law wsX7_undo := goodIn_r _ [592, 95, 84, 85, 708, 709, 710, 711, 712, 713, 714, 715, 716, 717, 718, 719, 720, 721, 722, 723, 724, 725] (by decide +kernel) (by decide +kernel)
set_option maxRecDepth 20000 in
theorem gL_law_X7_undo : GoodIn wsL_law (wsV RL 100 RX7 yX7_undo wsX7_undo) := goodIn_app (goodIn_of _ (by decide +kernel)) ggL_law_X7_undo
