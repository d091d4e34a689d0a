set_option maxRecDepth 20000 in
theorem ggL_law_X7_restore : GoodIn wsL_law wsX7_restore := goodIn_r _ [601, 30, 25, 15, 16, 448, 127, 128, 129, 24, 130, 85, 84, 131, 132, 133, 134, 135, 136, 137, 14, 138, 38, 41, 45, 49, 139, 140, 141, 142, 143, 144, 145, 37, 146, 56, 147, 2, 148, 149, 150, 151, 152, 153, 154, 155, 156, 157, 158, 159, 43, 160, 61, 161, 162, 163, 164, 165, 166, 167, 168, 169, 170, 171, 172, 20, 173, 66, 67, 68, 174, 175, 176, 48, 177, 73, 74, 75, 76, 77, 592, 723, 724, 725, 726, 727, 728, 729, 744, 745, 746, 747, 748, 749, 750, 751, 755, 756, 759, 760, 761, 762, 763, 764, 765, 766, 767, 768, 769, 752, 753, 754, 770, 771, 772, 773, 774] (by decide +kernel) (by decide +kernel)
set_option maxRecDepth 20000 in
theorem gL_law_X7_restore : GoodIn wsL_law (wsV RL 74 RX7 yX7_restore wsX7_restore) := goodIn_app (goodIn_of _ (by decide +kernel)) ggL_law_X7_restore
set_option maxRecDepth 20000 in
theorem ggL_law_X8_restore : GoodIn wsL_law wsX8_restore := goodIn_r _ [605, 105, 597, 98, 101, 193, 194, 195, 5, 196, 197, 100, 730, 731, 732, 733, 734, 735, 736, 737, 738, 739, 740, 741, 742, 743] (by decide +kernel) (by decide +kernel)
set_option maxRecDepth 20000 in
theorem gL_law_X8_restore : GoodIn wsL_law (wsV RL 77 RX8 yX8_restore wsX8_restore) := goodIn_app (goodIn_of _ (by decide +kernel)) ggL_law_X8_restore
set_option maxRecDepth 20000 in
theorem ggL_law_X7_burner : GoodIn wsL_law wsX7_burner := goodIn_r _ [609, 15, 203, 202, 328, 353, 319, 610, 433, 434, 611, 612, 204, 205, 206, 14, 207, 41, 338, 339, 2, 340, 329, 330, 331, 332, 38, 333, 124, 125, 37, 126, 56, 121, 122, 334, 335, 336, 43, 337, 166, 161, 162, 165, 383, 384, 385, 386, 387, 388, 389, 390, 391, 61, 723, 724, 725, 726, 727, 728, 729, 760, 761, 762, 763, 764, 765, 766, 767, 768, 769, 744, 745, 746, 747, 748, 749, 750, 751, 759] (by decide +kernel) (by decide +kernel)
set_option maxRecDepth 20000 in
theorem gL_law_X7_burner : GoodIn wsL_law (wsV RL 78 RX7 yX7_burner wsX7_burner) := goodIn_app (goodIn_of _ (by decide +kernel)) ggL_law_X7_burner
set_option maxRecDepth 20000 in
theorem ggL_law_X8_burner : GoodIn wsL_law wsX8_burner := goodIn_r _ [616, 105, 213, 214, 5, 215, 187, 188, 189, 345, 346, 347, 348, 98, 216, 217, 218, 219, 415, 416, 417, 418, 419, 420, 421, 422, 423, 424, 730, 731, 732, 733, 734, 735, 736, 737, 738, 739, 740, 741, 742, 743] (by decide +kernel) (by decide +kernel)
set_option maxRecDepth 20000 in
theorem gL_law_X8_burner : GoodIn wsL_law (wsV RL 81 RX8 yX8_burner wsX8_burner) := goodIn_app (goodIn_of _ (by decide +kernel)) ggL_law_X8_burner
set_option maxRecDepth 20000 in
theorem ggL_law_X7_staysOpen : GoodIn wsL_law wsX7_staysOpen := goodIn_r _ [620, 15, 202, 433, 110, 610, 204, 205, 206, 14, 207, 41, 123, 124, 125, 37, 126, 56, 121, 2, 122, 621, 489, 490, 43, 491, 492, 61, 493, 150, 151, 152, 494, 495, 460, 461, 496, 497, 498, 723, 724, 725, 726, 727, 728, 729, 760, 761, 762, 763, 764, 765, 766, 767, 768, 769, 744, 745, 746, 747, 748, 749, 750, 751, 759] (by decide +kernel) (by decide +kernel)
set_option maxRecDepth 20000 in
theorem gL_law_X7_staysOpen : GoodIn wsL_law (wsV RL 82 RX7 yX7_staysOpen wsX7_staysOpen) := goodIn_app (goodIn_of _ (by decide +kernel)) ggL_law_X7_staysOpen
set_option maxRecDepth 20000 in
theorem ggL_law_X8_staysOpen : GoodIn wsL_law wsX8_staysOpen := goodIn_r _ [625, 105, 98, 213, 214, 5, 215, 187, 188, 189, 216, 217, 218, 219, 544, 545, 546, 422, 423, 424, 730, 731, 732, 733, 734, 735, 736, 737, 738, 739, 740, 741, 742, 743] (by decide +kernel) (by decide +kernel)
set_option maxRecDepth 20000 in
theorem gL_law_X8_staysOpen : GoodIn wsL_law (wsV RL 85 RX8 yX8_staysOpen wsX8_staysOpen) := goodIn_app (goodIn_of _ (by decide +kernel)) ggL_law_X8_staysOpen
set_option maxRecDepth 20000 in
theorem ggL_law_X7_toPress : GoodIn wsL_law wsX7_toPress := goodIn_r _ [629, 15, 110, 610, 204, 205, 206, 14, 207, 41, 208, 114, 2, 115, 123, 124, 125, 37, 126, 56, 121, 122, 630, 484, 485, 43, 486, 487, 388, 389, 390, 391, 61, 621, 489, 490, 491, 492, 493, 150, 151, 152, 494, 495, 460, 461, 496, 497, 498, 723, 724, 725, 726, 727, 728, 729, 744, 745, 746, 747, 748, 749, 750, 751, 760, 761, 762, 763, 764, 765, 766, 767, 768, 769, 759] (by decide +kernel) (by decide +kernel)
set_option maxRecDepth 20000 in
theorem gL_law_X7_toPress : GoodIn wsL_law (wsV RL 86 RX7 yX7_toPress wsX7_toPress) := goodIn_app (goodIn_of _ (by decide +kernel)) ggL_law_X7_toPress
set_option maxRecDepth 20000 in
theorem ggL_law_X8_toPress : GoodIn wsL_law wsX8_toPress := goodIn_r _ [634, 105, 98, 213, 214, 5, 215, 187, 188, 189, 216, 217, 218, 219, 535, 536, 537, 422, 423, 424, 538, 539, 540, 541, 542, 543, 544, 545, 546, 730, 731, 732, 733, 734, 735, 736, 737, 738, 739, 740, 741, 742, 743] (by decide +kernel) (by decide +kernel)
set_option maxRecDepth 20000 in
theorem gL_law_X8_toPress : GoodIn wsL_law (wsV RL 89 RX8 yX8_toPress wsX8_toPress) := goodIn_app (goodIn_of _ (by decide +kernel)) ggL_law_X8_toPress
set_option maxRecDepth 20000 in
theorem ggL_law_X7_clearIn : GoodIn wsL_law wsX7_clearIn := goodIn_r _ [638, 17, 15, 592, 136, 137, 14, 138, 38, 41, 45, 49, 139, 140, 141, 142, 143, 144, 145, 37, 146, 56, 147, 2, 148, 149, 150, 151, 152, 153, 154, 155, 156, 157, 158, 159, 43, 160, 61, 161, 162, 163, 164, 165, 166, 167, 168, 169, 170, 171, 172, 20, 173, 66, 67, 68, 174, 175, 176, 48, 177, 73, 74, 75, 76, 77, 639, 640, 641, 642, 505, 506, 507, 508, 396, 468, 330, 331, 332, 333, 124, 125, 126, 121, 122, 334, 335, 336, 337, 455, 456, 457, 458, 459, 460, 461, 462, 376, 377, 378, 379, 380, 381, 382, 463, 372, 373, 374, 464, 465, 466, 467, 469, 384, 385, 386, 387, 388, 389, 390, 391, 398, 399, 400, 401, 402, 403, 404, 405, 406, 114, 115, 470, 471, 472, 473, 358, 397, 439, 474, 393, 394, 395, 475, 476, 477, 478, 479, 480, 481, 482, 483, 484, 485, 486, 487, 488, 489, 490, 491, 492, 493, 494, 495, 496, 497, 498, 499, 500, 501, 502, 503, 504, 509, 510, 511, 512, 513, 723, 724, 725, 726, 727, 728, 729, 744, 745, 746, 747, 748, 749, 750, 751, 759, 760, 761, 762, 763, 764, 765, 766, 767, 768, 769, 752, 753, 754, 770, 771, 772, 773, 774] (by decide +kernel) (by decide +kernel)
set_option maxRecDepth 20000 in
theorem gL_law_X7_clearIn : GoodIn wsL_law (wsV RL 90 RX7 yX7_clearIn wsX7_clearIn) := goodIn_app (goodIn_of _ (by decide +kernel)) ggL_law_X7_clearIn
set_option maxRecDepth 20000 in
theorem ggL_law_X8_clearIn : GoodIn wsL_law wsX8_clearIn := goodIn_r _ [646, 105, 647, 648, 649, 5, 650, 99, 98, 651, 652, 653, 654, 345, 346, 347, 348, 216, 217, 218, 219, 523, 524, 525, 526, 411, 412, 413, 414, 527, 528, 529, 530, 220, 221, 222, 223, 415, 416, 417, 418, 419, 420, 421, 422, 423, 424, 425, 426, 427, 428, 531, 532, 533, 534, 535, 536, 537, 538, 539, 540, 541, 542, 543, 544, 545, 546, 547, 548, 549, 655, 656, 657, 658, 730, 731, 732, 733, 734, 735, 736, 737, 738, 739, 740, 741, 742, 743] (by decide +kernel) (by decide +kernel)
set_option maxRecDepth 20000 in
theorem gL_law_X8_clearIn : GoodIn wsL_law (wsV RL 93 RX8 yX8_clearIn wsX8_clearIn) := goodIn_app (goodIn_of _ (by decide +kernel)) ggL_law_X8_clearIn
