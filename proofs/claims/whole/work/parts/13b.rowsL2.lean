/-! the law: its calls' words -/
set_option maxRecDepth 20000 in
theorem ggL_law_X7_cost : GoodIn wsL_law wsX7_cost := goodIn_r _ [237, 84, 238, 163, 164, 165, 5, 166, 187, 188, 189, 190, 127, 128, 129, 130, 131, 132, 133, 95, 85, 239, 240, 241, 242, 243, 244, 245, 246, 247, 248, 249, 250, 251, 252, 253, 254, 87, 255, 256, 257, 258, 259, 89, 90, 88, 167, 168, 169, 170, 708, 709, 710, 711, 712, 713, 714, 715, 716, 717, 718, 719, 720, 721, 722, 723, 724, 725] (by decide +kernel) (by decide +kernel)
set_option maxRecDepth 20000 in
theorem gL_law_X7_cost : GoodIn wsL_law (wsV RL 35 RX7 yX7_cost wsX7_cost) := goodIn_app (goodIn_of _ (by decide +kernel)) ggL_law_X7_cost
set_option maxRecDepth 20000 in
theorem ggL_law_X6_bar : GoodIn wsL_law wsX6_bar := goodIn_r _ [263, 15, 151, 152, 153, 2, 154, 100, 175, 176, 177, 178, 138, 264, 265, 266, 14, 267, 43, 196, 197, 198, 199, 23, 19, 200, 201, 202, 203, 22, 204, 55, 205, 206, 207, 208, 117, 209, 210, 211, 212, 58, 213, 214, 215, 216, 217, 218, 219, 220, 221, 222, 223, 224, 225, 226, 227, 228, 229, 230, 231, 232, 233, 104, 105, 106, 18, 107, 108, 49, 109, 110, 111, 112, 113, 114, 115, 116, 118, 41, 702, 703, 704, 705, 706, 707, 726, 727, 728, 729, 732, 733, 734, 735, 730, 731] (by decide +kernel) (by decide +kernel)
set_option maxRecDepth 20000 in
theorem gL_law_X6_bar : GoodIn wsL_law (wsV RL 36 RX6 yX6_bar wsX6_bar) := goodIn_app (goodIn_of _ (by decide +kernel)) ggL_law_X6_bar
set_option maxRecDepth 20000 in
theorem ggL_law_X7_bar : GoodIn wsL_law wsX7_bar := goodIn_r _ [271, 84, 163, 164, 165, 5, 166, 187, 188, 189, 190, 167, 168, 169, 170, 130, 131, 132, 133, 95, 85, 239, 240, 241, 242, 243, 244, 245, 246, 247, 248, 249, 250, 251, 252, 253, 254, 87, 255, 256, 257, 258, 259, 89, 90, 88, 708, 709, 710, 711, 712, 713, 714, 715, 716, 717, 718, 719, 720, 721, 722, 723, 724, 725] (by decide +kernel) (by decide +kernel)
set_option maxRecDepth 20000 in
theorem gL_law_X7_bar : GoodIn wsL_law (wsV RL 40 RX7 yX7_bar wsX7_bar) := goodIn_app (goodIn_of _ (by decide +kernel)) ggL_law_X7_bar
set_option maxRecDepth 20000 in
theorem ggL_law_X6_idle : GoodIn wsL_law wsX6_idle := goodIn_r _ [275, 19, 15, 276, 151, 152, 153, 2, 154, 100, 101, 102, 103, 104, 105, 106, 18, 107, 108, 49, 109, 110, 111, 112, 113, 114, 115, 14, 116, 117, 118, 41, 43, 702, 703, 704, 705, 706, 707, 726, 727, 728, 729, 730, 731] (by decide +kernel) (by decide +kernel)
set_option maxRecDepth 20000 in
theorem gL_law_X6_idle : GoodIn wsL_law (wsV RL 41 RX6 yX6_idle wsX6_idle) := goodIn_app (goodIn_of _ (by decide +kernel)) ggL_law_X6_idle
set_option maxRecDepth 20000 in
theorem ggL_law_X7_idle : GoodIn wsL_law wsX7_idle := goodIn_r _ [280, 84, 163, 164, 165, 5, 166, 127, 128, 129, 130, 131, 132, 133, 95, 85, 708, 709, 710, 711, 712, 713, 714, 715, 716, 717, 718, 719, 720, 721, 722, 723, 724, 725] (by decide +kernel) (by decide +kernel)
set_option maxRecDepth 20000 in
theorem gL_law_X7_idle : GoodIn wsL_law (wsV RL 44 RX7 yX7_idle wsX7_idle) := goodIn_app (goodIn_of _ (by decide +kernel)) ggL_law_X7_idle
set_option maxRecDepth 20000 in
theorem ggL_law_X6_times : GoodIn wsL_law wsX6_times := goodIn_r _ [284, 285, 15, 286, 19, 151, 152, 153, 2, 154, 100, 287, 288, 289, 14, 290, 41, 118, 43, 291, 292, 226, 293, 104, 105, 106, 18, 107, 108, 49, 109, 110, 111, 112, 113, 114, 115, 116, 117, 294, 295, 296, 297, 298, 265, 266, 267, 702, 703, 704, 705, 706, 707, 726, 727, 728, 729, 730, 731] (by decide +kernel) (by decide +kernel)
set_option maxRecDepth 20000 in
theorem gL_law_X6_times : GoodIn wsL_law (wsV RL 45 RX6 yX6_times wsX6_times) := goodIn_app (goodIn_of _ (by decide +kernel)) ggL_law_X6_times
set_option maxRecDepth 20000 in
theorem ggL_law_X7_times : GoodIn wsL_law wsX7_times := goodIn_r _ [302, 303, 304, 84, 163, 164, 165, 5, 166, 127, 128, 129, 305, 306, 307, 308, 167, 168, 169, 170, 130, 131, 132, 133, 95, 85, 708, 709, 710, 711, 712, 713, 714, 715, 716, 717, 718, 719, 720, 721, 722, 723, 724, 725] (by decide +kernel) (by decide +kernel)
set_option maxRecDepth 20000 in
theorem gL_law_X7_times : GoodIn wsL_law (wsV RL 48 RX7 yX7_times wsX7_times) := goodIn_app (goodIn_of _ (by decide +kernel)) ggL_law_X7_times
set_option maxRecDepth 20000 in
theorem ggL_law_X6_costOf : GoodIn wsL_law wsX6_costOf := goodIn_r _ [312, 15, 151, 152, 153, 2, 154, 100, 313, 314, 315, 316, 175, 176, 177, 178, 138, 264, 265, 266, 14, 267, 43, 317, 318, 319, 320, 41, 702, 703, 704, 705, 706, 707, 726, 727, 728, 729] (by decide +kernel) (by decide +kernel)
set_option maxRecDepth 20000 in
theorem gL_law_X6_costOf : GoodIn wsL_law (wsV RL 49 RX6 yX6_costOf wsX6_costOf) := goodIn_app (goodIn_of _ (by decide +kernel)) ggL_law_X6_costOf
set_option maxRecDepth 20000 in
theorem ggL_law_X7_costOf : GoodIn wsL_law wsX7_costOf := goodIn_r _ [324, 84, 163, 164, 165, 5, 166, 187, 188, 189, 190, 167, 168, 169, 170, 708, 709, 710, 711, 712, 713, 714, 715, 716, 717, 718, 719, 720, 721, 722, 723, 724, 725] (by decide +kernel) (by decide +kernel)
set_option maxRecDepth 20000 in
theorem gL_law_X7_costOf : GoodIn wsL_law (wsV RL 52 RX7 yX7_costOf wsX7_costOf) := goodIn_app (goodIn_of _ (by decide +kernel)) ggL_law_X7_costOf
set_option maxRecDepth 20000 in
theorem ggL_law_X6_total : GoodIn wsL_law wsX6_total := goodIn_r _ [328, 23, 201, 202, 203, 22, 204, 55, 205, 206, 207, 14, 208, 117, 209, 210, 211, 212, 58, 213, 214, 215, 216, 217, 218, 219, 220, 221, 222, 223, 224, 225, 226, 227, 228, 229, 230, 231, 232, 233, 702, 703, 704, 705, 706, 707, 732, 733, 734, 735, 726, 727, 728, 729] (by decide +kernel) (by decide +kernel)
set_option maxRecDepth 20000 in
theorem gL_law_X6_total : GoodIn wsL_law (wsV RL 53 RX6 yX6_total wsX6_total) := goodIn_app (goodIn_of _ (by decide +kernel)) ggL_law_X6_total
set_option maxRecDepth 20000 in
theorem ggL_law_X7_total : GoodIn wsL_law wsX7_total := goodIn_r _ [332, 239, 240, 241, 5, 242, 243, 244, 245, 246, 84, 247, 248, 249, 250, 251, 252, 253, 254, 87, 255, 256, 257, 258, 259, 89, 90, 88, 167, 168, 169, 170, 708, 709, 710, 711, 712, 713, 714, 715, 716, 717, 718, 719, 720, 721, 722, 723, 724, 725] (by decide +kernel) (by decide +kernel)
set_option maxRecDepth 20000 in
theorem gL_law_X7_total : GoodIn wsL_law (wsV RL 56 RX7 yX7_total wsX7_total) := goodIn_app (goodIn_of _ (by decide +kernel)) ggL_law_X7_total
