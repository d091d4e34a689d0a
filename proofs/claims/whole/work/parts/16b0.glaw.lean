set_option maxRecDepth 20000 in
theorem ggL_law_X7_init : GoodIn wsL_law wsX7_init := goodIn_r _ [8, 9, 10, 11, 12, 13, 14, 15, 16, 17, 18, 19, 20, 21, 22, 23, 24, 25, 26, 27, 28, 29, 30, 31, 32, 33, 34, 35, 36, 37, 38, 39, 40, 41, 42, 43, 44, 45, 46, 47, 48, 49, 50, 51, 52, 53, 54, 55, 56, 57, 58, 59, 60, 61, 62, 63, 64, 65, 66, 67, 68, 69, 70, 71, 72, 73, 74, 75, 76, 77, 78, 79, 80, 81, 82, 83, 84, 85, 86, 87, 88, 89, 90, 91, 92, 93, 744, 745, 746, 747, 748, 749, 750, 751, 723, 724, 725, 726, 727, 728, 729, 752, 753, 754, 755, 756, 757, 758, 759, 760, 761, 762, 763, 764, 765, 766, 767, 768, 769, 770, 771, 772, 773, 774] (by decide +kernel) (by decide +kernel)
set_option maxRecDepth 20000 in
theorem gL_law_X7_init : GoodIn wsL_law (wsX7_init) := ggL_law_X7_init
set_option maxRecDepth 20000 in
theorem ggL_law_X8_init : GoodIn wsL_law wsX8_init := goodIn_r _ [96, 97, 10, 11, 55, 98, 99, 100, 101, 102, 103, 104, 105, 730, 731, 732, 733, 734, 735, 736, 737, 738, 739, 740, 741, 742, 743] (by decide +kernel) (by decide +kernel)
set_option maxRecDepth 20000 in
theorem gL_law_X8_init : GoodIn wsL_law (wsX8_init) := ggL_law_X8_init
set_option maxRecDepth 20000 in
theorem ggL_law_X7_set : GoodIn wsL_law wsX7_set := goodIn_r _ [109, 15, 110, 25, 111, 112, 37, 113, 54, 114, 2, 115, 116, 117, 118, 119, 120, 121, 122, 123, 124, 125, 126, 56, 127, 128, 129, 24, 130, 85, 84, 131, 132, 133, 134, 135, 136, 137, 14, 138, 38, 41, 45, 49, 139, 140, 141, 142, 143, 144, 145, 146, 147, 148, 149, 150, 151, 152, 153, 154, 155, 156, 157, 158, 159, 43, 160, 61, 161, 162, 163, 164, 165, 166, 167, 168, 169, 170, 171, 172, 20, 173, 66, 67, 68, 174, 175, 176, 48, 177, 73, 74, 75, 76, 77, 178, 179, 180, 181, 182, 723, 724, 725, 726, 727, 728, 729, 744, 745, 746, 747, 748, 749, 750, 751, 759, 755, 756, 760, 761, 762, 763, 764, 765, 766, 767, 768, 769, 752, 753, 754, 770, 771, 772, 773, 774] (by decide +kernel) (by decide +kernel)
set_option maxRecDepth 20000 in
theorem gL_law_X7_set : GoodIn wsL_law (wsV RL 13 RX7 yX7_set wsX7_set) := goodIn_app (goodIn_of _ (by decide +kernel)) ggL_law_X7_set
set_option maxRecDepth 20000 in
theorem ggL_law_X8_set : GoodIn wsL_law wsX8_set := goodIn_r _ [186, 105, 98, 187, 188, 5, 189, 190, 191, 192, 193, 194, 195, 196, 197, 100, 730, 731, 732, 733, 734, 735, 736, 737, 738, 739, 740, 741, 742, 743] (by decide +kernel) (by decide +kernel)
set_option maxRecDepth 20000 in
theorem gL_law_X8_set : GoodIn wsL_law (wsV RL 17 RX8 yX8_set wsX8_set) := goodIn_app (goodIn_of _ (by decide +kernel)) ggL_law_X8_set
set_option maxRecDepth 20000 in
theorem ggL_law_X7_setKind : GoodIn wsL_law wsX7_setKind := goodIn_r _ [201, 15, 202, 203, 25, 204, 205, 206, 14, 207, 41, 208, 114, 2, 115, 127, 128, 129, 24, 130, 85, 84, 131, 132, 133, 134, 135, 136, 137, 138, 38, 45, 49, 139, 140, 141, 142, 143, 144, 145, 37, 146, 56, 147, 148, 149, 150, 151, 152, 153, 154, 155, 156, 157, 158, 159, 43, 160, 61, 161, 162, 163, 164, 165, 166, 167, 168, 169, 170, 171, 172, 20, 173, 66, 67, 68, 174, 175, 176, 48, 177, 73, 74, 75, 76, 77, 723, 724, 725, 726, 727, 728, 729, 760, 761, 762, 763, 764, 765, 766, 767, 768, 769, 744, 745, 746, 747, 748, 749, 750, 751, 755, 756, 759, 752, 753, 754, 770, 771, 772, 773, 774] (by decide +kernel) (by decide +kernel)
set_option maxRecDepth 20000 in
theorem gL_law_X7_setKind : GoodIn wsL_law (wsV RL 18 RX7 yX7_setKind wsX7_setKind) := goodIn_app (goodIn_of _ (by decide +kernel)) ggL_law_X7_setKind
set_option maxRecDepth 20000 in
theorem ggL_law_X8_setKind : GoodIn wsL_law wsX8_setKind := goodIn_r _ [212, 105, 213, 214, 5, 215, 187, 188, 189, 216, 217, 218, 219, 98, 193, 194, 195, 196, 197, 100, 220, 221, 222, 223, 730, 731, 732, 733, 734, 735, 736, 737, 738, 739, 740, 741, 742, 743] (by decide +kernel) (by decide +kernel)
set_option maxRecDepth 20000 in
theorem gL_law_X8_setKind : GoodIn wsL_law (wsV RL 21 RX8 yX8_setKind wsX8_setKind) := goodIn_app (goodIn_of _ (by decide +kernel)) ggL_law_X8_setKind
set_option maxRecDepth 20000 in
theorem ggL_law_X7_plan : GoodIn wsL_law wsX7_plan := goodIn_r _ [227, 15, 228, 25, 229, 208, 114, 2, 115, 230, 231, 232, 20, 233, 68, 234, 235, 236, 237, 66, 238, 239, 240, 241, 67, 121, 122, 127, 128, 129, 24, 130, 85, 84, 131, 132, 133, 134, 135, 136, 137, 14, 138, 38, 41, 45, 49, 139, 140, 141, 142, 143, 144, 145, 37, 146, 56, 147, 148, 149, 150, 151, 152, 153, 154, 155, 156, 157, 158, 159, 43, 160, 61, 161, 162, 163, 164, 165, 166, 167, 168, 169, 170, 171, 172, 173, 174, 175, 176, 48, 177, 73, 74, 75, 76, 77, 242, 243, 244, 245, 246, 247, 248, 249, 250, 723, 724, 725, 726, 727, 728, 729, 744, 745, 746, 747, 748, 749, 750, 751, 752, 753, 754, 755, 756, 759, 760, 761, 762, 763, 764, 765, 766, 767, 768, 769, 770, 771, 772, 773, 774] (by decide +kernel) (by decide +kernel)
set_option maxRecDepth 20000 in
theorem gL_law_X7_plan : GoodIn wsL_law (wsV RL 22 RX7 yX7_plan wsX7_plan) := goodIn_app (goodIn_of _ (by decide +kernel)) ggL_law_X7_plan
set_option maxRecDepth 20000 in
theorem ggL_law_X8_plan : GoodIn wsL_law wsX8_plan := goodIn_r _ [254, 105, 98, 187, 188, 5, 189, 255, 256, 257, 258, 193, 194, 195, 196, 197, 100, 259, 260, 261, 262, 730, 731, 732, 733, 734, 735, 736, 737, 738, 739, 740, 741, 742, 743] (by decide +kernel) (by decide +kernel)
set_option maxRecDepth 20000 in
theorem gL_law_X8_plan : GoodIn wsL_law (wsV RL 25 RX8 yX8_plan wsX8_plan) := goodIn_app (goodIn_of _ (by decide +kernel)) ggL_law_X8_plan
set_option maxRecDepth 20000 in
theorem ggL_law_X7_readPlan : GoodIn wsL_law wsX7_readPlan := goodIn_r _ [266, 29, 21, 25, 15, 228, 229, 267, 268, 269, 28, 270, 93, 92, 271, 272, 273, 274, 275, 276, 277, 278, 279, 280, 281, 282, 283, 20, 284, 68, 285, 243, 244, 245, 66, 67, 246, 231, 232, 233, 234, 235, 236, 237, 247, 248, 249, 250, 127, 128, 129, 24, 130, 85, 84, 131, 132, 133, 134, 135, 136, 137, 14, 138, 38, 41, 45, 49, 139, 140, 141, 142, 143, 144, 145, 37, 146, 56, 147, 2, 148, 149, 150, 151, 152, 153, 154, 155, 156, 157, 158, 159, 43, 160, 61, 161, 162, 163, 164, 165, 166, 167, 168, 169, 170, 171, 172, 173, 174, 175, 176, 48, 177, 73, 74, 75, 76, 77, 286, 723, 724, 725, 726, 727, 728, 729, 744, 745, 746, 747, 748, 749, 750, 751, 752, 753, 754, 757, 758, 755, 756, 759, 760, 761, 762, 763, 764, 765, 766, 767, 768, 769, 770, 771, 772, 773, 774] (by decide +kernel) (by decide +kernel)
set_option maxRecDepth 20000 in
theorem gL_law_X7_readPlan : GoodIn wsL_law (wsV RL 26 RX7 yX7_readPlan wsX7_readPlan) := goodIn_app (goodIn_of _ (by decide +kernel)) ggL_law_X7_readPlan
set_option maxRecDepth 20000 in
theorem ggL_law_X8_readPlan : GoodIn wsL_law wsX8_readPlan := goodIn_r _ [290, 105, 98, 291, 103, 104, 292, 293, 294, 5, 295, 296, 297, 298, 299, 300, 301, 302, 303, 304, 305, 306, 307, 308, 309, 310, 102, 187, 188, 189, 311, 312, 313, 314, 193, 194, 195, 196, 197, 100, 259, 260, 261, 262, 255, 256, 257, 258, 730, 731, 732, 733, 734, 735, 736, 737, 738, 739, 740, 741, 742, 743] (by decide +kernel) (by decide +kernel)
set_option maxRecDepth 20000 in
theorem gL_law_X8_readPlan : GoodIn wsL_law (wsV RL 30 RX8 yX8_readPlan wsX8_readPlan) := goodIn_app (goodIn_of _ (by decide +kernel)) ggL_law_X8_readPlan
