set_option maxRecDepth 20000 in
theorem ggL_law_X7_turn : GoodIn wsL_law wsX7_turn := goodIn_r _ [318, 15, 202, 25, 319, 204, 205, 206, 14, 207, 41, 208, 114, 2, 115, 127, 128, 129, 24, 130, 85, 84, 131, 132, 133, 134, 135, 136, 137, 138, 38, 45, 49, 139, 140, 141, 142, 143, 144, 145, 37, 146, 56, 147, 148, 149, 150, 151, 152, 153, 154, 155, 156, 157, 158, 159, 43, 160, 61, 161, 162, 163, 164, 165, 166, 167, 168, 169, 170, 171, 172, 20, 173, 66, 67, 68, 174, 175, 176, 48, 177, 73, 74, 75, 76, 77, 723, 724, 725, 726, 727, 728, 729, 760, 761, 762, 763, 764, 765, 766, 767, 768, 769, 744, 745, 746, 747, 748, 749, 750, 751, 755, 756, 759, 752, 753, 754, 770, 771, 772, 773, 774] (by decide +kernel) (by decide +kernel)
set_option maxRecDepth 20000 in
theorem gL_law_X7_turn : GoodIn wsL_law (wsV RL 31 RX7 yX7_turn wsX7_turn) := goodIn_app (goodIn_of _ (by decide +kernel)) ggL_law_X7_turn
set_option maxRecDepth 20000 in
theorem ggL_law_X8_turn : GoodIn wsL_law wsX8_turn := goodIn_r _ [323, 105, 213, 214, 5, 215, 187, 188, 189, 216, 217, 218, 219, 98, 193, 194, 195, 196, 197, 100, 220, 221, 222, 223, 730, 731, 732, 733, 734, 735, 736, 737, 738, 739, 740, 741, 742, 743] (by decide +kernel) (by decide +kernel)
set_option maxRecDepth 20000 in
theorem gL_law_X8_turn : GoodIn wsL_law (wsV RL 34 RX8 yX8_turn wsX8_turn) := goodIn_app (goodIn_of _ (by decide +kernel)) ggL_law_X8_turn
set_option maxRecDepth 20000 in
theorem ggL_law_X7_press : GoodIn wsL_law wsX7_press := goodIn_r _ [327, 15, 328, 25, 204, 205, 206, 14, 207, 41, 127, 128, 129, 24, 130, 85, 84, 131, 132, 133, 134, 135, 136, 137, 138, 38, 45, 49, 139, 140, 141, 142, 143, 144, 145, 37, 146, 56, 147, 2, 148, 149, 150, 151, 152, 153, 154, 155, 156, 157, 158, 159, 43, 160, 61, 161, 162, 163, 164, 165, 166, 167, 168, 169, 170, 171, 172, 20, 173, 66, 67, 68, 174, 175, 176, 48, 177, 73, 74, 75, 76, 77, 329, 330, 331, 332, 333, 124, 125, 126, 121, 122, 334, 335, 336, 337, 338, 339, 340, 723, 724, 725, 726, 727, 728, 729, 760, 761, 762, 763, 764, 765, 766, 767, 768, 769, 744, 745, 746, 747, 748, 749, 750, 751, 755, 756, 759, 752, 753, 754, 770, 771, 772, 773, 774] (by decide +kernel) (by decide +kernel)
set_option maxRecDepth 20000 in
theorem gL_law_X7_press : GoodIn wsL_law (wsV RL 35 RX7 yX7_press wsX7_press) := goodIn_app (goodIn_of _ (by decide +kernel)) ggL_law_X7_press
set_option maxRecDepth 20000 in
theorem ggL_law_X8_press : GoodIn wsL_law wsX8_press := goodIn_r _ [344, 105, 213, 214, 5, 215, 187, 188, 189, 216, 217, 218, 219, 98, 193, 194, 195, 196, 197, 100, 220, 221, 222, 223, 345, 346, 347, 348, 730, 731, 732, 733, 734, 735, 736, 737, 738, 739, 740, 741, 742, 743] (by decide +kernel) (by decide +kernel)
set_option maxRecDepth 20000 in
theorem gL_law_X8_press : GoodIn wsL_law (wsV RL 39 RX8 yX8_press wsX8_press) := goodIn_app (goodIn_of _ (by decide +kernel)) ggL_law_X8_press
set_option maxRecDepth 20000 in
theorem ggL_law_X7_igniter : GoodIn wsL_law wsX7_igniter := goodIn_r _ [352, 15, 353, 25, 204, 205, 206, 14, 207, 41, 127, 128, 129, 24, 130, 85, 84, 131, 132, 133, 134, 135, 136, 137, 138, 38, 45, 49, 139, 140, 141, 142, 143, 144, 145, 37, 146, 56, 147, 2, 148, 149, 150, 151, 152, 153, 154, 155, 156, 157, 158, 159, 43, 160, 61, 161, 162, 163, 164, 165, 166, 167, 168, 169, 170, 171, 172, 20, 173, 66, 67, 68, 174, 175, 176, 48, 177, 73, 74, 75, 76, 77, 354, 355, 356, 357, 358, 339, 340, 723, 724, 725, 726, 727, 728, 729, 760, 761, 762, 763, 764, 765, 766, 767, 768, 769, 744, 745, 746, 747, 748, 749, 750, 751, 755, 756, 759, 752, 753, 754, 770, 771, 772, 773, 774] (by decide +kernel) (by decide +kernel)
set_option maxRecDepth 20000 in
theorem gL_law_X7_igniter : GoodIn wsL_law (wsV RL 40 RX7 yX7_igniter wsX7_igniter) := goodIn_app (goodIn_of _ (by decide +kernel)) ggL_law_X7_igniter
set_option maxRecDepth 20000 in
theorem ggL_law_X8_igniter : GoodIn wsL_law wsX8_igniter := goodIn_r _ [362, 105, 213, 214, 5, 215, 187, 188, 189, 216, 217, 218, 219, 98, 193, 194, 195, 196, 197, 100, 220, 221, 222, 223, 363, 364, 365, 366, 730, 731, 732, 733, 734, 735, 736, 737, 738, 739, 740, 741, 742, 743] (by decide +kernel) (by decide +kernel)
set_option maxRecDepth 20000 in
theorem gL_law_X8_igniter : GoodIn wsL_law (wsV RL 43 RX8 yX8_igniter wsX8_igniter) := goodIn_app (goodIn_of _ (by decide +kernel)) ggL_law_X8_igniter
set_option maxRecDepth 20000 in
theorem ggL_law_X7_light : GoodIn wsL_law wsX7_light := goodIn_r _ [370, 15, 319, 25, 204, 205, 206, 14, 207, 41, 329, 330, 331, 332, 38, 333, 124, 125, 37, 126, 56, 121, 2, 122, 334, 335, 336, 43, 337, 166, 161, 162, 165, 371, 372, 373, 374, 140, 127, 128, 129, 24, 130, 85, 84, 131, 132, 133, 134, 135, 136, 137, 138, 45, 49, 139, 141, 142, 143, 144, 145, 146, 147, 148, 149, 150, 151, 152, 153, 154, 155, 156, 157, 158, 159, 160, 61, 163, 164, 167, 168, 169, 170, 171, 172, 20, 173, 66, 67, 68, 174, 175, 176, 48, 177, 73, 74, 75, 76, 77, 375, 376, 377, 378, 379, 380, 381, 382, 383, 384, 385, 386, 387, 388, 389, 390, 391, 392, 393, 394, 395, 396, 397, 398, 399, 400, 401, 402, 403, 404, 405, 406, 114, 115, 723, 724, 725, 726, 727, 728, 729, 760, 761, 762, 763, 764, 765, 766, 767, 768, 769, 744, 745, 746, 747, 748, 749, 750, 751, 759, 755, 756, 752, 753, 754, 770, 771, 772, 773, 774] (by decide +kernel) (by decide +kernel)
set_option maxRecDepth 20000 in
theorem gL_law_X7_light : GoodIn wsL_law (wsV RL 44 RX7 yX7_light wsX7_light) := goodIn_app (goodIn_of _ (by decide +kernel)) ggL_law_X7_light
set_option maxRecDepth 20000 in
theorem ggL_law_X8_light : GoodIn wsL_law wsX8_light := goodIn_r _ [410, 105, 98, 213, 214, 5, 215, 187, 188, 189, 345, 346, 347, 348, 216, 217, 218, 219, 193, 194, 195, 196, 197, 100, 411, 412, 413, 414, 415, 416, 417, 418, 419, 420, 421, 422, 423, 424, 220, 221, 222, 223, 425, 426, 427, 428, 730, 731, 732, 733, 734, 735, 736, 737, 738, 739, 740, 741, 742, 743] (by decide +kernel) (by decide +kernel)
set_option maxRecDepth 20000 in
theorem gL_law_X8_light : GoodIn wsL_law (wsV RL 48 RX8 yX8_light wsX8_light) := goodIn_app (goodIn_of _ (by decide +kernel)) ggL_law_X8_light
set_option maxRecDepth 20000 in
theorem ggL_law_X7_unlock : GoodIn wsL_law wsX7_unlock := goodIn_r _ [432, 15, 433, 202, 25, 434, 204, 205, 206, 14, 207, 41, 127, 128, 129, 24, 130, 85, 84, 131, 132, 133, 134, 135, 136, 137, 138, 38, 45, 49, 139, 140, 141, 142, 143, 144, 145, 37, 146, 56, 147, 2, 148, 149, 150, 151, 152, 153, 154, 155, 156, 157, 158, 159, 43, 160, 61, 161, 162, 163, 164, 165, 166, 167, 168, 169, 170, 171, 172, 20, 173, 66, 67, 68, 174, 175, 176, 48, 177, 73, 74, 75, 76, 77, 435, 436, 437, 438, 439, 339, 340, 723, 724, 725, 726, 727, 728, 729, 760, 761, 762, 763, 764, 765, 766, 767, 768, 769, 744, 745, 746, 747, 748, 749, 750, 751, 755, 756, 759, 752, 753, 754, 770, 771, 772, 773, 774] (by decide +kernel) (by decide +kernel)
set_option maxRecDepth 20000 in
theorem gL_law_X7_unlock : GoodIn wsL_law (wsV RL 49 RX7 yX7_unlock wsX7_unlock) := goodIn_app (goodIn_of _ (by decide +kernel)) ggL_law_X7_unlock
set_option maxRecDepth 20000 in
theorem ggL_law_X8_unlock : GoodIn wsL_law wsX8_unlock := goodIn_r _ [443, 105, 213, 214, 5, 215, 187, 188, 189, 216, 217, 218, 219, 98, 193, 194, 195, 196, 197, 100, 220, 221, 222, 223, 363, 364, 365, 366, 730, 731, 732, 733, 734, 735, 736, 737, 738, 739, 740, 741, 742, 743] (by decide +kernel) (by decide +kernel)
set_option maxRecDepth 20000 in
theorem gL_law_X8_unlock : GoodIn wsL_law (wsV RL 52 RX8 yX8_unlock wsX8_unlock) := goodIn_app (goodIn_of _ (by decide +kernel)) ggL_law_X8_unlock
