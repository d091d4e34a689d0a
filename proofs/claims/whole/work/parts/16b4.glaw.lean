set_option maxRecDepth 20000 in
theorem ggL_law_X7_blownIn : GoodIn wsL_law wsX7_blownIn := goodIn_r _ [662, 15, 202, 228, 448, 204, 205, 206, 14, 207, 41, 383, 384, 385, 43, 386, 387, 161, 388, 389, 390, 391, 61, 121, 2, 122, 663, 380, 381, 20, 382, 68, 66, 67, 723, 724, 725, 726, 727, 728, 729, 760, 761, 762, 763, 764, 765, 766, 767, 768, 769, 744, 745, 746, 747, 748, 749, 750, 751, 752, 753, 754] (by decide +kernel) (by decide +kernel)
set_option maxRecDepth 20000 in
theorem gL_law_X7_blownIn : GoodIn wsL_law (wsV RL 94 RX7 yX7_blownIn wsX7_blownIn) := goodIn_app (goodIn_of _ (by decide +kernel)) ggL_law_X7_blownIn
set_option maxRecDepth 20000 in
theorem ggL_law_X8_blownIn : GoodIn wsL_law wsX8_blownIn := goodIn_r _ [667, 105, 98, 213, 214, 5, 215, 187, 188, 189, 216, 217, 218, 219, 411, 412, 413, 414, 415, 416, 417, 418, 419, 420, 421, 422, 423, 424, 730, 731, 732, 733, 734, 735, 736, 737, 738, 739, 740, 741, 742, 743] (by decide +kernel) (by decide +kernel)
set_option maxRecDepth 20000 in
theorem gL_law_X8_blownIn : GoodIn wsL_law (wsV RL 97 RX8 yX8_blownIn wsX8_blownIn) := goodIn_app (goodIn_of _ (by decide +kernel)) ggL_law_X8_blownIn
set_option maxRecDepth 20000 in
theorem ggL_law_X7_entry : GoodIn wsL_law wsX7_entry := goodIn_r _ [671, 15, 228, 229, 672, 673, 208, 114, 2, 115, 674, 121, 122, 723, 724, 725, 726, 727, 728, 729, 744, 745, 746, 747, 748, 749, 750, 751, 752, 753, 754] (by decide +kernel) (by decide +kernel)
set_option maxRecDepth 20000 in
theorem gL_law_X7_entry : GoodIn wsL_law (wsV RL 98 RX7 yX7_entry wsX7_entry) := goodIn_app (goodIn_of _ (by decide +kernel)) ggL_law_X7_entry
set_option maxRecDepth 20000 in
theorem ggL_law_X8_entry : GoodIn wsL_law wsX8_entry := goodIn_r _ [678, 105, 98, 187, 188, 5, 189, 730, 731, 732, 733, 734, 735, 736, 737, 738, 739, 740, 741, 742, 743] (by decide +kernel) (by decide +kernel)
set_option maxRecDepth 20000 in
theorem gL_law_X8_entry : GoodIn wsL_law (wsV RL 101 RX8 yX8_entry wsX8_entry) := goodIn_app (goodIn_of _ (by decide +kernel)) ggL_law_X8_entry
set_option maxRecDepth 20000 in
theorem ggL_law_X7_event : GoodIn wsL_law wsX7_event := goodIn_r _ [682, 15, 450, 683, 684, 685, 686, 208, 114, 2, 115, 674, 121, 122, 723, 724, 725, 726, 727, 728, 729, 744, 745, 746, 747, 748, 749, 750, 751, 770, 771, 772, 773, 774] (by decide +kernel) (by decide +kernel)
set_option maxRecDepth 20000 in
theorem gL_law_X7_event : GoodIn wsL_law (wsV RL 102 RX7 yX7_event wsX7_event) := goodIn_app (goodIn_of _ (by decide +kernel)) ggL_law_X7_event
set_option maxRecDepth 20000 in
theorem ggL_law_X8_event : GoodIn wsL_law wsX8_event := goodIn_r _ [690, 105, 98, 187, 188, 5, 189, 730, 731, 732, 733, 734, 735, 736, 737, 738, 739, 740, 741, 742, 743] (by decide +kernel) (by decide +kernel)
set_option maxRecDepth 20000 in
theorem gL_law_X8_event : GoodIn wsL_law (wsV RL 105 RX8 yX8_event wsX8_event) := goodIn_app (goodIn_of _ (by decide +kernel)) ggL_law_X8_event
set_option maxRecDepth 20000 in
theorem ggL_law_X7_count : GoodIn wsL_law wsX7_count := goodIn_r _ [694, 15, 448, 695, 228, 229, 450, 696, 697, 698, 25, 579, 29, 554, 375, 376, 377, 14, 378, 45, 139, 379, 380, 381, 20, 382, 68, 66, 67, 674, 121, 2, 122, 699, 700, 701, 702, 41, 396, 339, 340, 703, 704, 705, 706, 468, 330, 331, 332, 38, 333, 124, 125, 37, 126, 56, 334, 335, 336, 43, 337, 166, 161, 162, 165, 435, 436, 437, 438, 439, 723, 724, 725, 726, 727, 728, 729, 744, 745, 746, 747, 748, 749, 750, 751, 752, 753, 754, 770, 771, 772, 773, 774, 755, 756, 757, 758, 760, 761, 762, 763, 764, 765, 766, 767, 768, 769, 759] (by decide +kernel) (by decide +kernel)
set_option maxRecDepth 20000 in
theorem gL_law_X7_count : GoodIn wsL_law (wsV RL 106 RX7 yX7_count wsX7_count) := goodIn_app (goodIn_of _ (by decide +kernel)) ggL_law_X7_count
set_option maxRecDepth 20000 in
theorem ggL_law_X8_count : GoodIn wsL_law wsX8_count := goodIn_r _ [710, 105, 98, 197, 298, 411, 412, 413, 5, 414, 363, 364, 365, 366, 216, 217, 218, 219, 711, 712, 713, 714, 345, 346, 347, 348, 187, 188, 189, 730, 731, 732, 733, 734, 735, 736, 737, 738, 739, 740, 741, 742, 743] (by decide +kernel) (by decide +kernel)
set_option maxRecDepth 20000 in
theorem gL_law_X8_count : GoodIn wsL_law (wsV RL 109 RX8 yX8_count wsX8_count) := goodIn_app (goodIn_of _ (by decide +kernel)) ggL_law_X8_count
set_option maxRecDepth 20000 in
theorem ggL_law_X7_setting : GoodIn wsL_law wsX7_setting := goodIn_r _ [718, 15, 110, 111, 112, 37, 113, 54, 114, 2, 115, 123, 124, 125, 126, 56, 121, 122, 723, 724, 725, 726, 727, 728, 729, 744, 745, 746, 747, 748, 749, 750, 751, 759] (by decide +kernel) (by decide +kernel)
set_option maxRecDepth 20000 in
theorem gL_law_X7_setting : GoodIn wsL_law (wsV RL 110 RX7 yX7_setting wsX7_setting) := goodIn_app (goodIn_of _ (by decide +kernel)) ggL_law_X7_setting
set_option maxRecDepth 20000 in
theorem ggL_law_X8_setting : GoodIn wsL_law wsX8_setting := goodIn_r _ [722, 105, 98, 187, 188, 5, 189, 730, 731, 732, 733, 734, 735, 736, 737, 738, 739, 740, 741, 742, 743] (by decide +kernel) (by decide +kernel)
set_option maxRecDepth 20000 in
theorem gL_law_X8_setting : GoodIn wsL_law (wsV RL 113 RX8 yX8_setting wsX8_setting) := goodIn_app (goodIn_of _ (by decide +kernel)) ggL_law_X8_setting
