/-! the law: its calls' words -/
set_option maxRecDepth 20000 in
theorem ggL_law_X6_taskOf : GoodIn wsL_law wsX6_taskOf := goodIn_r _ [336, 23, 337, 151, 152, 153, 2, 154, 15, 100, 338, 339, 340, 22, 341, 342, 55, 218, 56, 343, 202, 203, 204, 205, 206, 207, 14, 208, 117, 209, 210, 211, 212, 58, 213, 214, 215, 216, 217, 219, 220, 221, 222, 223, 224, 225, 226, 227, 228, 229, 230, 231, 232, 233, 344, 345, 346, 347, 702, 703, 704, 705, 706, 707, 732, 733, 734, 735, 726, 727, 728, 729] (by decide +kernel) (by decide +kernel)
set_option maxRecDepth 20000 in
theorem gL_law_X6_taskOf : GoodIn wsL_law (wsV RL 57 RX6 yX6_taskOf wsX6_taskOf) := goodIn_app (goodIn_of _ (by decide +kernel)) ggL_law_X6_taskOf
set_option maxRecDepth 20000 in
theorem ggL_law_X7_taskOf : GoodIn wsL_law wsX7_taskOf := goodIn_r _ [351, 91, 163, 164, 165, 5, 166, 84, 352, 353, 354, 355, 239, 240, 241, 242, 243, 244, 245, 246, 247, 248, 249, 250, 251, 252, 253, 254, 87, 255, 256, 257, 258, 259, 89, 90, 88, 167, 168, 169, 170, 708, 709, 710, 711, 712, 713, 714, 715, 716, 717, 718, 719, 720, 721, 722, 723, 724, 725] (by decide +kernel) (by decide +kernel)
set_option maxRecDepth 20000 in
theorem gL_law_X7_taskOf : GoodIn wsL_law (wsV RL 60 RX7 yX7_taskOf wsX7_taskOf) := goodIn_app (goodIn_of _ (by decide +kernel)) ggL_law_X7_taskOf
set_option maxRecDepth 20000 in
theorem ggL_law_X6_workerOf : GoodIn wsL_law wsX6_workerOf := goodIn_r _ [359, 23, 15, 100, 337, 175, 176, 177, 2, 178, 138, 338, 339, 340, 22, 341, 342, 55, 218, 56, 343, 202, 203, 204, 205, 206, 207, 14, 208, 117, 209, 210, 211, 212, 58, 213, 214, 215, 216, 217, 219, 220, 221, 222, 223, 224, 225, 226, 227, 228, 229, 230, 231, 232, 233, 344, 345, 346, 347, 702, 703, 704, 705, 706, 707, 726, 727, 728, 729, 732, 733, 734, 735] (by decide +kernel) (by decide +kernel)
set_option maxRecDepth 20000 in
theorem gL_law_X6_workerOf : GoodIn wsL_law (wsV RL 61 RX6 yX6_workerOf wsX6_workerOf) := goodIn_app (goodIn_of _ (by decide +kernel)) ggL_law_X6_workerOf
set_option maxRecDepth 20000 in
theorem ggL_law_X7_workerOf : GoodIn wsL_law wsX7_workerOf := goodIn_r _ [363, 84, 91, 187, 188, 189, 5, 190, 352, 353, 354, 355, 239, 240, 241, 242, 243, 244, 245, 246, 247, 248, 249, 250, 251, 252, 253, 254, 87, 255, 256, 257, 258, 259, 89, 90, 88, 167, 168, 169, 170, 708, 709, 710, 711, 712, 713, 714, 715, 716, 717, 718, 719, 720, 721, 722, 723, 724, 725] (by decide +kernel) (by decide +kernel)
set_option maxRecDepth 20000 in
theorem gL_law_X7_workerOf : GoodIn wsL_law (wsV RL 64 RX7 yX7_workerOf wsX7_workerOf) := goodIn_app (goodIn_of _ (by decide +kernel)) ggL_law_X7_workerOf
set_option maxRecDepth 20000 in
theorem ggL_law_X6_totalFor : GoodIn wsL_law wsX6_totalFor := goodIn_r _ [367, 15, 100, 23, 368, 210, 211, 22, 212, 58, 213, 214, 215, 216, 55, 217, 218, 219, 220, 221, 222, 223, 224, 225, 226, 227, 228, 229, 230, 231, 232, 233, 702, 703, 704, 705, 706, 707, 726, 727, 728, 729, 732, 733, 734, 735] (by decide +kernel) (by decide +kernel)
set_option maxRecDepth 20000 in
theorem gL_law_X6_totalFor : GoodIn wsL_law (wsV RL 65 RX6 yX6_totalFor wsX6_totalFor) := goodIn_app (goodIn_of _ (by decide +kernel)) ggL_law_X6_totalFor
set_option maxRecDepth 20000 in
theorem ggL_law_X7_totalFor : GoodIn wsL_law wsX7_totalFor := goodIn_r _ [372, 243, 244, 245, 5, 246, 84, 127, 128, 129, 247, 248, 249, 250, 251, 252, 253, 254, 87, 255, 256, 257, 258, 259, 89, 90, 88, 167, 168, 169, 170, 708, 709, 710, 711, 712, 713, 714, 715, 716, 717, 718, 719, 720, 721, 722, 723, 724, 725] (by decide +kernel) (by decide +kernel)
set_option maxRecDepth 20000 in
theorem gL_law_X7_totalFor : GoodIn wsL_law (wsV RL 68 RX7 yX7_totalFor wsX7_totalFor) := goodIn_app (goodIn_of _ (by decide +kernel)) ggL_law_X7_totalFor
set_option maxRecDepth 20000 in
theorem ggL_law_X6_price : GoodIn wsL_law wsX6_price := goodIn_r _ [376, 27, 377, 175, 176, 177, 2, 178, 15, 138, 378, 379, 380, 26, 381, 64, 382, 383, 384, 22, 385, 55, 58, 205, 206, 207, 14, 208, 117, 213, 214, 215, 216, 217, 218, 219, 220, 221, 222, 223, 224, 225, 226, 227, 228, 229, 230, 231, 232, 233, 386, 387, 388, 389, 63, 390, 65, 391, 392, 393, 292, 293, 394, 202, 203, 204, 209, 210, 211, 212, 395, 396, 397, 398, 399, 400, 401, 265, 266, 267, 43, 702, 703, 704, 705, 706, 707, 736, 737, 738, 726, 727, 728, 729, 732, 733, 734, 735] (by decide +kernel) (by decide +kernel)
set_option maxRecDepth 20000 in
theorem gL_law_X6_price : GoodIn wsL_law (wsV RL 69 RX6 yX6_price wsX6_price) := goodIn_app (goodIn_of _ (by decide +kernel)) ggL_law_X6_price
set_option maxRecDepth 20000 in
theorem ggL_law_X7_price : GoodIn wsL_law wsX7_price := goodIn_r _ [405, 187, 188, 189, 5, 190, 84, 127, 128, 129, 406, 407, 408, 409, 88, 243, 244, 245, 246, 247, 248, 249, 250, 251, 252, 253, 254, 87, 255, 256, 257, 258, 259, 89, 90, 167, 168, 169, 170, 239, 240, 241, 242, 410, 411, 412, 413, 708, 709, 710, 711, 712, 713, 714, 715, 716, 717, 718, 719, 720, 721, 722, 723, 724, 725] (by decide +kernel) (by decide +kernel)
set_option maxRecDepth 20000 in
theorem gL_law_X7_price : GoodIn wsL_law (wsV RL 72 RX7 yX7_price wsX7_price) := goodIn_app (goodIn_of _ (by decide +kernel)) ggL_law_X7_price
set_option maxRecDepth 20000 in
theorem ggL_law_X6_workerIs : GoodIn wsL_law wsX6_workerIs := goodIn_r _ [417, 23, 15, 27, 276, 151, 152, 153, 2, 154, 100, 201, 202, 203, 22, 204, 55, 205, 206, 207, 14, 208, 117, 209, 210, 211, 212, 58, 213, 214, 215, 216, 217, 218, 219, 220, 221, 222, 223, 224, 225, 226, 227, 228, 229, 230, 231, 232, 233, 418, 396, 397, 398, 399, 368, 386, 387, 388, 26, 389, 63, 390, 65, 64, 391, 392, 393, 292, 293, 394, 395, 400, 401, 265, 266, 267, 43, 419, 420, 421, 422, 423, 424, 425, 426, 427, 428, 429, 702, 703, 704, 705, 706, 707, 726, 727, 728, 729, 732, 733, 734, 735, 736, 737, 738] (by decide +kernel) (by decide +kernel)
set_option maxRecDepth 20000 in
theorem gL_law_X6_workerIs : GoodIn wsL_law (wsV RL 73 RX6 yX6_workerIs wsX6_workerIs) := goodIn_app (goodIn_of _ (by decide +kernel)) ggL_law_X6_workerIs
set_option maxRecDepth 20000 in
theorem ggL_law_X7_workerIs : GoodIn wsL_law wsX7_workerIs := goodIn_r _ [433, 84, 163, 164, 165, 5, 166, 127, 128, 129, 239, 240, 241, 242, 243, 244, 245, 246, 247, 248, 249, 250, 251, 252, 253, 254, 87, 255, 256, 257, 258, 259, 89, 90, 88, 167, 168, 169, 170, 434, 435, 436, 437, 92, 406, 407, 408, 409, 438, 439, 440, 441, 442, 443, 444, 445, 708, 709, 710, 711, 712, 713, 714, 715, 716, 717, 718, 719, 720, 721, 722, 723, 724, 725] (by decide +kernel) (by decide +kernel)
set_option maxRecDepth 20000 in
theorem gL_law_X7_workerIs : GoodIn wsL_law (wsV RL 76 RX7 yX7_workerIs wsX7_workerIs) := goodIn_app (goodIn_of _ (by decide +kernel)) ggL_law_X7_workerIs
set_option maxRecDepth 20000 in
theorem ggL_law_X6_proof : GoodIn wsL_law wsX6_proof := goodIn_r _ [449, 27, 386, 387, 388, 26, 389, 63, 390, 65, 64, 391, 392, 393, 292, 226, 293, 394, 202, 203, 22, 204, 55, 205, 206, 207, 14, 208, 117, 209, 210, 211, 212, 58, 213, 214, 215, 216, 217, 218, 219, 220, 221, 222, 223, 224, 225, 227, 228, 229, 230, 231, 232, 233, 395, 396, 397, 398, 399, 400, 401, 265, 266, 267, 43, 450, 451, 452, 453, 429, 420, 421, 422, 423, 424, 454, 455, 456, 457, 702, 703, 704, 705, 706, 707, 736, 737, 738, 726, 727, 728, 729, 732, 733, 734, 735] (by decide +kernel) (by decide +kernel)
set_option maxRecDepth 20000 in
theorem gL_law_X6_proof : GoodIn wsL_law (wsV RL 77 RX6 yX6_proof wsX6_proof) := goodIn_app (goodIn_of _ (by decide +kernel)) ggL_law_X6_proof
