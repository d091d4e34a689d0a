set_option maxRecDepth 20000 in
theorem ggL_digest_X7_count : GoodIn wsL_digest wsX7_count := goodIn_r _ [7, 8, 9, 10, 11, 12, 13, 14, 15, 16, 17, 18, 19, 20, 21, 22, 23, 24, 25, 26, 27, 28, 29, 30, 31, 32, 33, 34, 35, 36, 37, 6, 38, 39, 40, 41, 42, 43, 44, 45, 46, 47, 48, 49, 50, 51, 52, 53, 54, 55, 56, 57, 58, 59, 60, 61, 62, 63, 64, 65, 66, 67, 68, 69, 70, 71, 72, 73, 74, 75, 133, 134, 135, 136, 137, 138, 139, 140, 141, 142, 143, 144, 145, 146, 147, 148, 149, 150, 151, 152, 153, 154, 155, 156, 157, 158, 159, 160, 161, 162, 163, 164, 165, 166, 167, 168, 169, 170] (by decide +kernel) (by decide +kernel)
set_option maxRecDepth 20000 in
theorem gL_digest_X7_count : GoodIn wsL_digest (wsV RL 12 RX7 yX7_count wsX7_count) := goodIn_app (goodIn_of _ (by decide +kernel)) ggL_digest_X7_count
set_option maxRecDepth 20000 in
theorem ggL_digest_X7_burner : GoodIn wsL_digest wsX7_burner := goodIn_r _ [79, 8, 80, 81, 82, 83, 84, 85, 86, 87, 88, 89, 90, 91, 92, 24, 93, 43, 94, 45, 6, 46, 95, 52, 53, 54, 55, 56, 57, 58, 59, 60, 61, 37, 38, 62, 63, 64, 65, 66, 67, 68, 69, 70, 96, 97, 98, 99, 100, 101, 102, 103, 104, 105, 133, 134, 135, 136, 137, 138, 139, 160, 161, 162, 163, 164, 165, 166, 167, 168, 169, 140, 141, 142, 143, 144, 145, 146, 147, 170] (by decide +kernel) (by decide +kernel)
set_option maxRecDepth 20000 in
theorem gL_digest_X7_burner : GoodIn wsL_digest (wsV RL 18 RX7 yX7_burner wsX7_burner) := goodIn_app (goodIn_of _ (by decide +kernel)) ggL_digest_X7_burner
set_option maxRecDepth 20000 in
theorem ggL_digest_X7_entry : GoodIn wsL_digest wsX7_entry := goodIn_r _ [109, 8, 11, 12, 110, 111, 112, 113, 6, 114, 36, 37, 38, 133, 134, 135, 136, 137, 138, 139, 140, 141, 142, 143, 144, 145, 146, 147, 148, 149, 150] (by decide +kernel) (by decide +kernel)
set_option maxRecDepth 20000 in
theorem gL_digest_X7_entry : GoodIn wsL_digest (wsV RL 22 RX7 yX7_entry wsX7_entry) := goodIn_app (goodIn_of _ (by decide +kernel)) ggL_digest_X7_entry
set_option maxRecDepth 20000 in
theorem ggL_digest_X7_event : GoodIn wsL_digest wsX7_event := goodIn_r _ [118, 8, 13, 119, 120, 121, 122, 112, 113, 6, 114, 36, 37, 38, 133, 134, 135, 136, 137, 138, 139, 140, 141, 142, 143, 144, 145, 146, 147, 151, 152, 153, 154, 155] (by decide +kernel) (by decide +kernel)
set_option maxRecDepth 20000 in
theorem gL_digest_X7_event : GoodIn wsL_digest (wsV RL 25 RX7 yX7_event wsX7_event) := goodIn_app (goodIn_of _ (by decide +kernel)) ggL_digest_X7_event
set_option maxRecDepth 20000 in
theorem ggL_digest_X7_setting : GoodIn wsL_digest wsX7_setting := goodIn_r _ [126, 8, 127, 128, 129, 59, 130, 131, 113, 6, 114, 132, 57, 58, 60, 61, 37, 38, 133, 134, 135, 136, 137, 138, 139, 140, 141, 142, 143, 144, 145, 146, 147, 170] (by decide +kernel) (by decide +kernel)
set_option maxRecDepth 20000 in
theorem gL_digest_X7_setting : GoodIn wsL_digest (wsV RL 28 RX7 yX7_setting wsX7_setting) := goodIn_app (goodIn_of _ (by decide +kernel)) ggL_digest_X7_setting
set_option maxRecDepth 20000 in
theorem ggL_act_L_low : GoodIn wsL_act wsL_low := goodIn_r _ [4, 5] (by decide +kernel) (by decide +kernel)
set_option maxRecDepth 20000 in
theorem gL_act_L_low : GoodIn wsL_act (va_wsS RL 31 yL_low wsL_low) := goodIn_app (goodIn_of _ (by decide +kernel)) ggL_act_L_low
set_option maxRecDepth 20000 in
theorem ggL_act_X7_set : GoodIn wsL_act wsX7_set := goodIn_r _ [10, 11, 12, 13, 14, 15, 16, 17, 18, 19, 9, 20, 21, 22, 23, 24, 25, 26, 27, 28, 29, 30, 31, 32, 33, 34, 35, 36, 37, 38, 39, 40, 41, 42, 43, 44, 45, 46, 47, 48, 49, 50, 51, 52, 53, 54, 55, 56, 57, 58, 59, 60, 61, 62, 63, 64, 65, 66, 67, 68, 69, 70, 71, 72, 73, 74, 75, 76, 77, 78, 79, 80, 81, 82, 83, 84, 85, 86, 87, 88, 89, 90, 91, 92, 93, 94, 95, 96, 97, 98, 99, 100, 101, 102, 103, 104, 105, 106, 107, 108, 327, 328, 329, 330, 331, 332, 333, 334, 335, 336, 337, 338, 339, 340, 341, 342, 343, 344, 345, 346, 347, 348, 349, 350, 351, 352, 353, 354, 355, 356, 357, 358, 359, 360, 361, 362] (by decide +kernel) (by decide +kernel)
set_option maxRecDepth 20000 in
theorem gL_act_X7_set : GoodIn wsL_act (wsV RL 36 RX7 yX7_set wsX7_set) := goodIn_app (goodIn_of _ (by decide +kernel)) ggL_act_X7_set
set_option maxRecDepth 20000 in
theorem ggL_act_X7_setKind : GoodIn wsL_act wsX7_setKind := goodIn_r _ [112, 11, 113, 114, 13, 115, 116, 117, 47, 118, 50, 119, 19, 9, 20, 33, 34, 35, 36, 37, 38, 39, 40, 41, 42, 43, 44, 45, 46, 48, 49, 51, 52, 53, 54, 55, 56, 57, 58, 59, 16, 60, 32, 61, 62, 63, 64, 65, 66, 67, 68, 69, 70, 71, 72, 73, 74, 75, 76, 77, 78, 79, 80, 81, 82, 83, 84, 85, 86, 87, 88, 89, 90, 91, 92, 93, 94, 95, 96, 97, 98, 99, 100, 101, 102, 103, 327, 328, 329, 330, 331, 332, 333, 345, 346, 347, 348, 349, 350, 351, 352, 353, 354, 334, 335, 336, 337, 338, 339, 340, 341, 343, 344, 342, 355, 356, 357, 358, 359, 360, 361, 362] (by decide +kernel) (by decide +kernel)
set_option maxRecDepth 20000 in
theorem gL_act_X7_setKind : GoodIn wsL_act (wsV RL 39 RX7 yX7_setKind wsX7_setKind) := goodIn_app (goodIn_of _ (by decide +kernel)) ggL_act_X7_setKind
set_option maxRecDepth 20000 in
theorem ggL_act_X7_count : GoodIn wsL_act wsX7_count := goodIn_r _ [123, 11, 124, 125, 126, 127, 128, 129, 130, 131, 13, 132, 133, 134, 135, 136, 137, 47, 138, 51, 53, 139, 140, 141, 89, 142, 93, 91, 92, 143, 26, 9, 27, 144, 145, 146, 147, 50, 148, 149, 150, 151, 152, 153, 154, 155, 156, 157, 158, 49, 159, 29, 30, 16, 31, 32, 160, 161, 162, 74, 163, 82, 77, 78, 81, 164, 165, 166, 167, 168, 327, 328, 329, 330, 331, 332, 333, 334, 335, 336, 337, 338, 339, 340, 341, 355, 356, 357, 358, 359, 360, 361, 362, 343, 344, 363, 364, 345, 346, 347, 348, 349, 350, 351, 352, 353, 354, 342] (by decide +kernel) (by decide +kernel)
set_option maxRecDepth 20000 in
theorem gL_act_X7_count : GoodIn wsL_act (wsV RL 12 RX7 yX7_count wsX7_count) := goodIn_app (goodIn_of _ (by decide +kernel)) ggL_act_X7_count
set_option maxRecDepth 20000 in
theorem ggL_act_X7_plan : GoodIn wsL_act wsX7_plan := goodIn_r _ [172, 11, 126, 13, 127, 119, 19, 9, 20, 173, 174, 175, 89, 176, 93, 177, 178, 179, 180, 91, 181, 182, 183, 184, 92, 26, 27, 33, 34, 35, 36, 37, 38, 39, 40, 41, 42, 43, 44, 45, 46, 47, 48, 49, 50, 51, 52, 53, 54, 55, 56, 57, 58, 59, 16, 60, 32, 61, 62, 63, 64, 65, 66, 67, 68, 69, 70, 71, 72, 73, 74, 75, 76, 77, 78, 79, 80, 81, 82, 83, 84, 85, 86, 87, 88, 90, 94, 95, 96, 97, 98, 99, 100, 101, 102, 103, 185, 186, 187, 188, 189, 190, 191, 192, 193, 327, 328, 329, 330, 331, 332, 333, 334, 335, 336, 337, 338, 339, 340, 341, 355, 356, 357, 343, 344, 342, 345, 346, 347, 348, 349, 350, 351, 352, 353, 354, 358, 359, 360, 361, 362] (by decide +kernel) (by decide +kernel)
set_option maxRecDepth 20000 in
theorem gL_act_X7_plan : GoodIn wsL_act (wsV RL 42 RX7 yX7_plan wsX7_plan) := goodIn_app (goodIn_of _ (by decide +kernel)) ggL_act_X7_plan
