set_option maxRecDepth 20000 in
theorem ggL_law_X7_pass : GoodIn wsL_law wsX7_pass := goodIn_r _ [447, 15, 448, 449, 25, 450, 208, 114, 2, 115, 127, 128, 129, 24, 130, 85, 84, 131, 132, 133, 134, 135, 136, 137, 14, 138, 38, 41, 45, 49, 139, 140, 141, 142, 143, 144, 145, 37, 146, 56, 147, 148, 149, 150, 151, 152, 153, 154, 155, 156, 157, 158, 159, 43, 160, 61, 161, 162, 163, 164, 165, 166, 167, 168, 169, 170, 171, 172, 20, 173, 66, 67, 68, 174, 175, 176, 48, 177, 73, 74, 75, 76, 77, 451, 452, 453, 454, 455, 456, 457, 458, 459, 460, 461, 462, 376, 377, 378, 379, 380, 381, 382, 463, 372, 373, 374, 333, 124, 125, 126, 121, 122, 464, 465, 466, 467, 396, 468, 330, 331, 332, 334, 335, 336, 337, 469, 384, 385, 386, 387, 388, 389, 390, 391, 398, 399, 400, 401, 402, 403, 404, 405, 406, 470, 471, 472, 473, 358, 397, 439, 474, 393, 394, 395, 475, 476, 477, 478, 479, 480, 481, 482, 483, 484, 485, 486, 487, 488, 489, 490, 491, 492, 493, 494, 495, 496, 497, 498, 499, 500, 501, 502, 503, 504, 505, 506, 507, 508, 509, 510, 511, 512, 513, 723, 724, 725, 726, 727, 728, 729, 744, 745, 746, 747, 748, 749, 750, 751, 755, 756, 759, 760, 761, 762, 763, 764, 765, 766, 767, 768, 769, 752, 753, 754, 770, 771, 772, 773, 774] (by decide +kernel) (by decide +kernel)
set_option maxRecDepth 20000 in
theorem gL_law_X7_pass : GoodIn wsL_law (wsV RL 53 RX7 yX7_pass wsX7_pass) := goodIn_app (goodIn_of _ (by decide +kernel)) ggL_law_X7_pass
set_option maxRecDepth 20000 in
theorem ggL_law_X8_pass : GoodIn wsL_law wsX8_pass := goodIn_r _ [517, 105, 98, 518, 187, 188, 5, 189, 193, 194, 195, 196, 197, 100, 519, 520, 521, 522, 523, 524, 525, 526, 411, 412, 413, 414, 527, 528, 529, 530, 216, 217, 218, 219, 345, 346, 347, 348, 220, 221, 222, 223, 415, 416, 417, 418, 419, 420, 421, 422, 423, 424, 425, 426, 427, 428, 531, 532, 533, 534, 535, 536, 537, 538, 539, 540, 541, 542, 543, 544, 545, 546, 547, 548, 549, 730, 731, 732, 733, 734, 735, 736, 737, 738, 739, 740, 741, 742, 743] (by decide +kernel) (by decide +kernel)
set_option maxRecDepth 20000 in
theorem gL_law_X8_pass : GoodIn wsL_law (wsV RL 56 RX8 yX8_pass wsX8_pass) := goodIn_app (goodIn_of _ (by decide +kernel)) ggL_law_X8_pass
set_option maxRecDepth 20000 in
theorem ggL_law_X7_type : GoodIn wsL_law wsX7_type := goodIn_r _ [553, 29, 554, 555, 556, 557, 28, 558, 93, 92, 723, 724, 725, 726, 727, 728, 729, 757, 758] (by decide +kernel) (by decide +kernel)
set_option maxRecDepth 20000 in
theorem gL_law_X7_type : GoodIn wsL_law (wsV RL 57 RX7 yX7_type wsX7_type) := goodIn_app (goodIn_of _ (by decide +kernel)) ggL_law_X7_type
set_option maxRecDepth 20000 in
theorem ggL_law_X8_type : GoodIn wsL_law wsX8_type := goodIn_r _ [562, 105, 298, 102, 730, 731, 732, 733, 734, 735, 736, 737, 738, 739, 740, 741, 742, 743] (by decide +kernel) (by decide +kernel)
set_option maxRecDepth 20000 in
theorem gL_law_X8_type : GoodIn wsL_law (wsV RL 61 RX8 yX8_type wsX8_type) := goodIn_app (goodIn_of _ (by decide +kernel)) ggL_law_X8_type
set_option maxRecDepth 20000 in
theorem ggL_law_X7_clearText : GoodIn wsL_law wsX7_clearText := goodIn_r _ [566, 29, 554, 567, 568, 569, 28, 570, 93, 723, 724, 725, 726, 727, 728, 729, 757, 758] (by decide +kernel) (by decide +kernel)
set_option maxRecDepth 20000 in
theorem gL_law_X7_clearText : GoodIn wsL_law (wsV RL 62 RX7 yX7_clearText wsX7_clearText) := goodIn_app (goodIn_of _ (by decide +kernel)) ggL_law_X7_clearText
set_option maxRecDepth 20000 in
theorem ggL_law_X8_clearText : GoodIn wsL_law wsX8_clearText := goodIn_r _ [574, 105, 298, 730, 731, 732, 733, 734, 735, 736, 737, 738, 739, 740, 741, 742, 743] (by decide +kernel) (by decide +kernel)
set_option maxRecDepth 20000 in
theorem gL_law_X8_clearText : GoodIn wsL_law (wsV RL 65 RX8 yX8_clearText wsX8_clearText) := goodIn_app (goodIn_of _ (by decide +kernel)) ggL_law_X8_clearText
set_option maxRecDepth 20000 in
theorem ggL_law_X7_undo : GoodIn wsL_law wsX7_undo := goodIn_r _ [578, 25, 15, 579, 580, 581, 582, 24, 583, 85, 84, 135, 136, 137, 14, 138, 38, 41, 45, 49, 139, 140, 141, 142, 143, 144, 145, 37, 146, 56, 147, 2, 148, 149, 150, 151, 152, 153, 154, 155, 156, 157, 158, 159, 43, 160, 61, 161, 162, 163, 164, 165, 166, 167, 168, 169, 170, 171, 172, 20, 173, 66, 67, 68, 174, 175, 176, 48, 177, 73, 74, 75, 76, 77, 723, 724, 725, 726, 727, 728, 729, 755, 756, 744, 745, 746, 747, 748, 749, 750, 751, 759, 760, 761, 762, 763, 764, 765, 766, 767, 768, 769, 752, 753, 754, 770, 771, 772, 773, 774] (by decide +kernel) (by decide +kernel)
set_option maxRecDepth 20000 in
theorem gL_law_X7_undo : GoodIn wsL_law (wsV RL 66 RX7 yX7_undo wsX7_undo) := goodIn_app (goodIn_of _ (by decide +kernel)) ggL_law_X7_undo
set_option maxRecDepth 20000 in
theorem ggL_law_X8_undo : GoodIn wsL_law wsX8_undo := goodIn_r _ [587, 105, 197, 98, 100, 730, 731, 732, 733, 734, 735, 736, 737, 738, 739, 740, 741, 742, 743] (by decide +kernel) (by decide +kernel)
set_option maxRecDepth 20000 in
theorem gL_law_X8_undo : GoodIn wsL_law (wsV RL 69 RX8 yX8_undo wsX8_undo) := goodIn_app (goodIn_of _ (by decide +kernel)) ggL_law_X8_undo
set_option maxRecDepth 20000 in
theorem ggL_law_X7_keep : GoodIn wsL_law wsX7_keep := goodIn_r _ [591, 16, 15, 30, 448, 592, 136, 137, 14, 138, 38, 41, 45, 49, 139, 140, 141, 142, 143, 144, 145, 37, 146, 56, 147, 2, 148, 149, 150, 151, 152, 153, 154, 155, 156, 157, 158, 159, 43, 160, 61, 161, 162, 163, 164, 165, 166, 167, 168, 169, 170, 171, 172, 20, 173, 66, 67, 68, 174, 175, 176, 48, 177, 73, 74, 75, 76, 77, 723, 724, 725, 726, 727, 728, 729, 744, 745, 746, 747, 748, 749, 750, 751, 759, 760, 761, 762, 763, 764, 765, 766, 767, 768, 769, 752, 753, 754, 770, 771, 772, 773, 774] (by decide +kernel) (by decide +kernel)
set_option maxRecDepth 20000 in
theorem gL_law_X7_keep : GoodIn wsL_law (wsV RL 70 RX7 yX7_keep wsX7_keep) := goodIn_app (goodIn_of _ (by decide +kernel)) ggL_law_X7_keep
set_option maxRecDepth 20000 in
theorem ggL_law_X8_keep : GoodIn wsL_law wsX8_keep := goodIn_r _ [596, 105, 101, 98, 597, 730, 731, 732, 733, 734, 735, 736, 737, 738, 739, 740, 741, 742, 743] (by decide +kernel) (by decide +kernel)
set_option maxRecDepth 20000 in
theorem gL_law_X8_keep : GoodIn wsL_law (wsV RL 73 RX8 yX8_keep wsX8_keep) := goodIn_app (goodIn_of _ (by decide +kernel)) ggL_law_X8_keep
