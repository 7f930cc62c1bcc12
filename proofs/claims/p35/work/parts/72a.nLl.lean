set_option maxRecDepth 100000 in
theorem ggL_law_X5_init : GoodIn wsL_law wsX5_init := goodIn_r _ [5, 6, 7, 8, 9, 10, 11, 12, 13, 14, 15, 16, 17, 18, 19, 20, 21, 22, 23, 24, 25, 26, 27, 28, 29, 30, 31, 32, 33, 34, 35, 36, 37, 38, 39, 40, 41, 42, 43, 44, 45, 46, 47, 48, 49, 50, 51, 52, 53, 54, 55, 56, 57, 58, 59, 60, 61, 62, 63, 64, 65, 66, 67, 68, 69, 70, 71, 72, 73, 74, 75, 76, 77, 78, 79, 80, 81, 479, 480, 481, 482, 483, 484, 485, 486, 487, 488, 489, 490, 491, 492, 493, 494, 471, 472, 473, 474, 475, 476, 477, 478, 495, 496, 497, 498, 499, 500, 501, 502, 503, 504, 505, 506, 507, 508, 509] rfl (by decide +kernel)
set_option maxRecDepth 100000 in
theorem gL_law_X5_init : GoodIn wsL_law (wsX5_init) := ggL_law_X5_init
set_option maxRecDepth 100000 in
theorem ggL_law_X5_undo : GoodIn wsL_law wsX5_undo := goodIn_r _ [85, 23, 12, 86, 87, 88, 22, 89, 90, 91, 92, 93, 94, 95, 73, 96, 97, 98, 11, 99, 33, 34, 35, 36, 100, 101, 102, 103, 104, 105, 40, 41, 42, 43, 44, 45, 106, 107, 108, 39, 109, 55, 110, 111, 52, 112, 113, 114, 115, 116, 471, 472, 473, 474, 475, 476, 477, 478, 500, 501, 502, 479, 480, 481, 482, 483, 484, 485, 486, 487, 488, 489, 490, 491, 492, 493, 494, 509] rfl (by decide +kernel)
set_option maxRecDepth 100000 in
theorem gL_law_X5_undo : GoodIn wsL_law (wsV RL 110 RX5 yX5_undo wsX5_undo) := goodIn_app (goodIn_of _ (by decide +kernel)) ggL_law_X5_undo
set_option maxRecDepth 100000 in
theorem ggL_law_X5_restore : GoodIn wsL_law wsX5_restore := goodIn_r _ [120, 28, 23, 12, 14, 121, 122, 123, 22, 124, 91, 90, 125, 111, 52, 112, 92, 93, 94, 95, 73, 96, 97, 98, 11, 99, 33, 34, 35, 36, 100, 101, 102, 103, 104, 105, 40, 41, 42, 43, 44, 45, 106, 107, 108, 39, 109, 55, 110, 113, 114, 115, 116, 126, 127, 128, 129, 130, 131, 132, 133, 134, 471, 472, 473, 474, 475, 476, 477, 478, 500, 501, 502, 479, 480, 481, 482, 483, 484, 485, 486, 487, 488, 489, 490, 491, 492, 493, 494, 509] rfl (by decide +kernel)
set_option maxRecDepth 100000 in
theorem gL_law_X5_restore : GoodIn wsL_law (wsV RL 67 RX5 yX5_restore wsX5_restore) := goodIn_app (goodIn_of _ (by decide +kernel)) ggL_law_X5_restore
set_option maxRecDepth 100000 in
theorem ggL_law_X5_keep : GoodIn wsL_law wsX5_keep := goodIn_r _ [138, 14, 12, 28, 126, 97, 98, 11, 99, 33, 34, 35, 36, 100, 101, 102, 103, 104, 105, 40, 41, 42, 43, 44, 45, 106, 107, 108, 39, 109, 55, 110, 111, 52, 112, 113, 114, 115, 116, 127, 128, 129, 130, 131, 132, 133, 134, 471, 472, 473, 474, 475, 476, 477, 478, 479, 480, 481, 482, 483, 484, 485, 486, 487, 488, 489, 490, 491, 492, 493, 494, 509] rfl (by decide +kernel)
set_option maxRecDepth 100000 in
theorem gL_law_X5_keep : GoodIn wsL_law (wsV RL 117 RX5 yX5_keep wsX5_keep) := goodIn_app (goodIn_of _ (by decide +kernel)) ggL_law_X5_keep
set_option maxRecDepth 100000 in
theorem ggL_law_L_cell : GoodIn wsL_law wsL_cell := goodIn_r _ [142, 143] rfl (by decide +kernel)
set_option maxRecDepth 100000 in
theorem gL_law_L_cell : GoodIn wsL_law (va_wsS RL 120 yL_cell wsL_cell) := goodIn_app (goodIn_of _ (by decide +kernel)) ggL_law_L_cell
set_option maxRecDepth 100000 in
theorem ggL_law_L_told : GoodIn wsL_law wsL_told := goodIn_r _ [146, 147, 148, 149, 141, 150, 151, 152, 153, 154, 2, 155, 12, 156, 157, 158, 159, 160, 161, 162, 163, 164, 23, 165, 27, 166, 127, 128, 129, 11, 130, 40, 131, 132, 133, 39, 134, 55, 167, 168, 169, 170, 171, 172, 173, 174, 175, 33, 34, 176, 177, 178, 179, 180, 181, 182, 183, 184, 185, 186, 187, 188, 189, 190, 191, 192, 193, 194, 195, 471, 472, 473, 474, 475, 476, 477, 478, 479, 480, 481, 482, 483, 484, 485, 486, 487, 488, 489, 490, 491, 492, 493, 494, 500, 501, 502, 503, 504, 505, 506, 507, 508, 509] rfl (by decide +kernel)
set_option maxRecDepth 100000 in
theorem gL_law_L_told : GoodIn wsL_law (va_wsS RL 97 yL_told wsL_told) := goodIn_app (goodIn_of _ (by decide +kernel)) ggL_law_L_told
