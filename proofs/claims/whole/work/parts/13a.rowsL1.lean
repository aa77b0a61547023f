/-! the law: its calls' words -/
set_option maxRecDepth 20000 in
theorem ggL_law_X6_init : GoodIn wsL_law wsX6_init := goodIn_r _ [8, 9, 10, 11, 12, 13, 14, 15, 16, 17, 18, 19, 20, 21, 22, 23, 24, 25, 26, 27, 28, 29, 30, 31, 32, 33, 34, 35, 36, 37, 38, 39, 40, 41, 42, 43, 44, 45, 46, 47, 48, 49, 50, 51, 52, 53, 54, 55, 56, 57, 58, 59, 60, 61, 62, 63, 64, 65, 66, 67, 68, 69, 70, 71, 72, 73, 74, 75, 76, 77, 78, 79, 726, 727, 728, 729, 702, 703, 704, 705, 706, 707, 730, 731, 732, 733, 734, 735, 736, 737, 738, 739, 740, 741, 742, 743, 744] (by decide +kernel) (by decide +kernel)
set_option maxRecDepth 20000 in
theorem gL_law_X6_init : GoodIn wsL_law (wsX6_init) := ggL_law_X6_init
set_option maxRecDepth 20000 in
theorem ggL_law_X7_init : GoodIn wsL_law wsX7_init := goodIn_r _ [82, 83, 10, 11, 40, 84, 85, 86, 87, 88, 89, 90, 91, 92, 93, 94, 95, 708, 709, 710, 711, 712, 713, 714, 715, 716, 717, 718, 719, 720, 721, 722, 723, 724, 725] (by decide +kernel) (by decide +kernel)
set_option maxRecDepth 20000 in
theorem gL_law_X7_init : GoodIn wsL_law (wsX7_init) := ggL_law_X7_init
set_option maxRecDepth 20000 in
theorem ggL_law_X6_worker : GoodIn wsL_law wsX6_worker := goodIn_r _ [99, 15, 100, 19, 101, 102, 2, 103, 104, 105, 106, 18, 107, 108, 49, 109, 110, 111, 112, 113, 114, 115, 14, 116, 117, 118, 41, 43, 119, 120, 121, 122, 702, 703, 704, 705, 706, 707, 726, 727, 728, 729, 730, 731] (by decide +kernel) (by decide +kernel)
set_option maxRecDepth 20000 in
theorem gL_law_X6_worker : GoodIn wsL_law (wsV RL 13 RX6 yX6_worker wsX6_worker) := goodIn_app (goodIn_of _ (by decide +kernel)) ggL_law_X6_worker
set_option maxRecDepth 20000 in
theorem ggL_law_X7_worker : GoodIn wsL_law wsX7_worker := goodIn_r _ [126, 84, 127, 128, 5, 129, 130, 131, 132, 133, 95, 85, 708, 709, 710, 711, 712, 713, 714, 715, 716, 717, 718, 719, 720, 721, 722, 723, 724, 725] (by decide +kernel) (by decide +kernel)
set_option maxRecDepth 20000 in
theorem gL_law_X7_worker : GoodIn wsL_law (wsV RL 17 RX7 yX7_worker wsX7_worker) := goodIn_app (goodIn_of _ (by decide +kernel)) ggL_law_X7_worker
set_option maxRecDepth 20000 in
theorem ggL_law_X6_task : GoodIn wsL_law wsX6_task := goodIn_r _ [137, 15, 138, 19, 104, 105, 106, 18, 107, 108, 49, 109, 110, 111, 112, 113, 114, 115, 14, 116, 117, 118, 41, 43, 139, 140, 141, 142, 702, 703, 704, 705, 706, 707, 726, 727, 728, 729, 730, 731] (by decide +kernel) (by decide +kernel)
set_option maxRecDepth 20000 in
theorem gL_law_X6_task : GoodIn wsL_law (wsV RL 18 RX6 yX6_task wsX6_task) := goodIn_app (goodIn_of _ (by decide +kernel)) ggL_law_X6_task
set_option maxRecDepth 20000 in
theorem ggL_law_X7_task : GoodIn wsL_law wsX7_task := goodIn_r _ [146, 84, 130, 131, 132, 5, 133, 95, 85, 708, 709, 710, 711, 712, 713, 714, 715, 716, 717, 718, 719, 720, 721, 722, 723, 724, 725] (by decide +kernel) (by decide +kernel)
set_option maxRecDepth 20000 in
theorem gL_law_X7_task : GoodIn wsL_law (wsV RL 22 RX7 yX7_task wsX7_task) := goodIn_app (goodIn_of _ (by decide +kernel)) ggL_law_X7_task
set_option maxRecDepth 20000 in
theorem ggL_law_X6_dropWorker : GoodIn wsL_law wsX6_dropWorker := goodIn_r _ [150, 19, 15, 100, 151, 152, 153, 2, 154, 104, 105, 106, 18, 107, 108, 49, 109, 110, 111, 112, 113, 114, 115, 14, 116, 117, 118, 41, 43, 155, 156, 157, 158, 702, 703, 704, 705, 706, 707, 726, 727, 728, 729, 730, 731] (by decide +kernel) (by decide +kernel)
set_option maxRecDepth 20000 in
theorem gL_law_X6_dropWorker : GoodIn wsL_law (wsV RL 23 RX6 yX6_dropWorker wsX6_dropWorker) := goodIn_app (goodIn_of _ (by decide +kernel)) ggL_law_X6_dropWorker
set_option maxRecDepth 20000 in
theorem ggL_law_X7_dropWorker : GoodIn wsL_law wsX7_dropWorker := goodIn_r _ [162, 84, 163, 164, 165, 5, 166, 130, 131, 132, 133, 95, 85, 167, 168, 169, 170, 708, 709, 710, 711, 712, 713, 714, 715, 716, 717, 718, 719, 720, 721, 722, 723, 724, 725] (by decide +kernel) (by decide +kernel)
set_option maxRecDepth 20000 in
theorem gL_law_X7_dropWorker : GoodIn wsL_law (wsV RL 26 RX7 yX7_dropWorker wsX7_dropWorker) := goodIn_app (goodIn_of _ (by decide +kernel)) ggL_law_X7_dropWorker
set_option maxRecDepth 20000 in
theorem ggL_law_X6_dropTask : GoodIn wsL_law wsX6_dropTask := goodIn_r _ [174, 19, 15, 138, 175, 176, 177, 2, 178, 104, 105, 106, 18, 107, 108, 49, 109, 110, 111, 112, 113, 114, 115, 14, 116, 117, 118, 41, 43, 179, 180, 181, 182, 702, 703, 704, 705, 706, 707, 726, 727, 728, 729, 730, 731] (by decide +kernel) (by decide +kernel)
set_option maxRecDepth 20000 in
theorem gL_law_X6_dropTask : GoodIn wsL_law (wsV RL 27 RX6 yX6_dropTask wsX6_dropTask) := goodIn_app (goodIn_of _ (by decide +kernel)) ggL_law_X6_dropTask
set_option maxRecDepth 20000 in
theorem ggL_law_X7_dropTask : GoodIn wsL_law wsX7_dropTask := goodIn_r _ [186, 84, 187, 188, 189, 5, 190, 130, 131, 132, 133, 95, 85, 167, 168, 169, 170, 708, 709, 710, 711, 712, 713, 714, 715, 716, 717, 718, 719, 720, 721, 722, 723, 724, 725] (by decide +kernel) (by decide +kernel)
set_option maxRecDepth 20000 in
theorem gL_law_X7_dropTask : GoodIn wsL_law (wsV RL 30 RX7 yX7_dropTask wsX7_dropTask) := goodIn_app (goodIn_of _ (by decide +kernel)) ggL_law_X7_dropTask
set_option maxRecDepth 20000 in
theorem ggL_law_X6_cost : GoodIn wsL_law wsX6_cost := goodIn_r _ [194, 195, 151, 152, 153, 2, 154, 15, 100, 175, 176, 177, 178, 138, 101, 102, 103, 196, 197, 198, 199, 23, 19, 200, 201, 202, 203, 22, 204, 55, 205, 206, 207, 14, 208, 117, 209, 210, 211, 212, 58, 213, 214, 215, 216, 217, 218, 219, 220, 221, 222, 223, 224, 225, 226, 227, 228, 229, 230, 231, 232, 233, 104, 105, 106, 18, 107, 108, 49, 109, 110, 111, 112, 113, 114, 115, 116, 118, 41, 43, 702, 703, 704, 705, 706, 707, 726, 727, 728, 729, 732, 733, 734, 735, 730, 731] (by decide +kernel) (by decide +kernel)
set_option maxRecDepth 20000 in
theorem gL_law_X6_cost : GoodIn wsL_law (wsV RL 31 RX6 yX6_cost wsX6_cost) := goodIn_app (goodIn_of _ (by decide +kernel)) ggL_law_X6_cost
