set_option maxRecDepth 100000 in
theorem ggL_act_X5_total : GoodIn wsL_act wsX5_total := goodIn_r _ [5, 6, 7, 8, 9, 10, 11, 12, 13, 14, 15, 16, 17, 18, 19, 20, 21, 22, 23, 24, 25, 26, 27, 28, 29, 30, 31, 292, 293, 294, 295, 296, 297, 298, 299, 300, 301, 302, 303, 304, 305, 306, 307, 308, 309, 310, 311, 312, 313, 314, 315, 316, 317, 318, 319, 320, 321, 322, 323, 324, 325] rfl (by decide +kernel)
set_option maxRecDepth 100000 in
theorem gL_act_X5_total : GoodIn wsL_act (wsV RL 11 RX5 yX5_total wsX5_total) := goodIn_app (goodIn_of _ (by decide +kernel)) ggL_act_X5_total
set_option maxRecDepth 100000 in
theorem ggL_act_L_up : GoodIn wsL_act wsL_up := goodIn_r _ [35, 36] rfl (by decide +kernel)
set_option maxRecDepth 100000 in
theorem gL_act_L_up : GoodIn wsL_act (va_wsS RL 38 yL_up wsL_up) := goodIn_app (goodIn_of _ (by decide +kernel)) ggL_act_L_up
set_option maxRecDepth 100000 in
theorem ggL_act_X5_disconnect : GoodIn wsL_act wsX5_disconnect := goodIn_r _ [40, 41, 6, 42, 43, 44, 45, 23, 46, 47, 48, 49, 50, 51, 52, 53, 54, 55, 56, 25, 57, 58, 59, 60, 61, 62, 63, 64, 29, 65, 31, 66, 67, 68, 69, 70, 71, 72, 73, 74, 75, 76, 77, 78, 79, 80, 81, 82, 83, 84, 85, 86, 87, 88, 26, 27, 28, 30, 89, 90, 91, 92, 93, 94, 95, 96, 97, 98, 99, 100, 101, 102, 4, 103, 104, 105, 106, 107, 108, 109, 110, 111, 16, 112, 113, 114, 115, 116, 117, 118, 119, 120, 121, 122, 123, 124, 125, 292, 293, 294, 295, 296, 297, 298, 299, 300, 301, 302, 303, 304, 305, 306, 307, 308, 309, 310, 311, 312, 313, 314, 315, 325, 316, 317, 318] rfl (by decide +kernel)
set_option maxRecDepth 100000 in
theorem gL_act_X5_disconnect : GoodIn wsL_act (wsV RL 42 RX5 yX5_disconnect wsX5_disconnect) := goodIn_app (goodIn_of _ (by decide +kernel)) ggL_act_X5_disconnect
set_option maxRecDepth 100000 in
theorem ggL_act_X5_takeOut : GoodIn wsL_act wsX5_takeOut := goodIn_r _ [129, 41, 6, 42, 43, 44, 45, 23, 46, 47, 48, 49, 50, 51, 52, 53, 54, 55, 56, 25, 57, 58, 59, 60, 61, 62, 63, 64, 29, 65, 31, 66, 67, 68, 69, 70, 71, 72, 73, 130, 131, 132, 77, 133, 134, 135, 136, 137, 138, 139, 140, 4, 141, 89, 27, 28, 30, 142, 95, 96, 97, 26, 98, 99, 100, 101, 102, 103, 104, 105, 106, 107, 143, 144, 145, 146, 147, 148, 149, 150, 151, 152, 153, 154, 86, 87, 88, 155, 156, 157, 158, 159, 160, 161, 162, 163, 164, 165, 166, 167, 168, 169, 170, 171, 172, 173, 174, 175, 176, 177, 178, 179, 180, 181, 182, 183, 184, 185, 186, 187, 188, 90, 91, 92, 93, 94, 189, 190, 191, 192, 193, 194, 195, 196, 108, 109, 110, 111, 16, 112, 113, 114, 115, 116, 117, 118, 119, 120, 121, 122, 123, 124, 125, 292, 293, 294, 295, 296, 297, 298, 299, 300, 301, 302, 303, 304, 305, 306, 307, 308, 309, 310, 311, 312, 313, 314, 315, 325, 326, 327, 328, 329, 330, 316, 317, 318] rfl (by decide +kernel)
set_option maxRecDepth 100000 in
theorem gL_act_X5_takeOut : GoodIn wsL_act (wsV RL 45 RX5 yX5_takeOut wsX5_takeOut) := goodIn_app (goodIn_of _ (by decide +kernel)) ggL_act_X5_takeOut
set_option maxRecDepth 100000 in
theorem ggL_act_X5_putBack : GoodIn wsL_act wsX5_putBack := goodIn_r _ [200, 41, 6, 42, 43, 44, 45, 23, 46, 47, 48, 49, 50, 51, 52, 53, 54, 55, 56, 25, 57, 58, 59, 60, 61, 62, 63, 64, 29, 65, 31, 66, 67, 68, 69, 70, 71, 72, 73, 201, 202, 203, 77, 204, 134, 136, 137, 138, 139, 140, 4, 141, 205, 206, 207, 208, 209, 210, 211, 108, 109, 110, 111, 16, 112, 113, 114, 115, 116, 117, 118, 119, 120, 121, 122, 123, 124, 125, 292, 293, 294, 295, 296, 297, 298, 299, 300, 301, 302, 303, 304, 305, 306, 307, 308, 309, 310, 311, 312, 313, 314, 315, 325, 316, 317, 318] rfl (by decide +kernel)
set_option maxRecDepth 100000 in
theorem gL_act_X5_putBack : GoodIn wsL_act (wsV RL 48 RX5 yX5_putBack wsX5_putBack) := goodIn_app (goodIn_of _ (by decide +kernel)) ggL_act_X5_putBack
set_option maxRecDepth 100000 in
theorem ggL_act_X5_pack : GoodIn wsL_act wsX5_pack := goodIn_r _ [215, 41, 6, 42, 43, 44, 45, 23, 46, 47, 48, 49, 50, 51, 52, 53, 54, 55, 56, 25, 57, 58, 59, 60, 61, 62, 63, 64, 29, 65, 31, 66, 67, 68, 69, 70, 71, 72, 73, 216, 217, 218, 77, 219, 134, 148, 220, 135, 221, 21, 22, 24, 26, 27, 28, 30, 222, 223, 224, 225, 226, 227, 228, 154, 86, 87, 88, 229, 230, 231, 232, 233, 234, 235, 140, 4, 141, 236, 142, 95, 96, 97, 98, 99, 100, 101, 102, 103, 104, 105, 106, 107, 143, 144, 145, 146, 147, 149, 150, 151, 152, 153, 89, 155, 156, 157, 158, 159, 160, 161, 162, 163, 164, 165, 166, 167, 168, 169, 170, 171, 172, 173, 174, 175, 176, 177, 178, 179, 180, 181, 182, 183, 184, 185, 186, 187, 188, 90, 91, 92, 93, 94, 189, 190, 191, 192, 193, 194, 195, 196, 237, 238, 239, 240, 108, 109, 110, 111, 16, 112, 113, 114, 115, 116, 117, 118, 119, 120, 121, 122, 123, 124, 125, 292, 293, 294, 295, 296, 297, 298, 299, 300, 301, 302, 303, 304, 305, 306, 307, 308, 309, 310, 311, 312, 313, 314, 315, 325, 326, 327, 328, 329, 330, 316, 317, 318] rfl (by decide +kernel)
set_option maxRecDepth 100000 in
theorem gL_act_X5_pack : GoodIn wsL_act (wsV RL 51 RX5 yX5_pack wsX5_pack) := goodIn_app (goodIn_of _ (by decide +kernel)) ggL_act_X5_pack
set_option maxRecDepth 100000 in
theorem ggL_act_X5_setChoiceRule : GoodIn wsL_act wsX5_setChoiceRule := goodIn_r _ [244, 6, 10, 16, 245, 246, 4, 247, 112, 113, 114, 115, 116, 117, 118, 119, 67, 68, 69, 120, 121, 122, 123, 124, 125, 44, 45, 23, 46, 47, 48, 49, 50, 51, 52, 53, 54, 55, 56, 25, 57, 58, 59, 60, 61, 62, 63, 64, 29, 65, 31, 66, 70, 71, 72, 73, 292, 293, 294, 295, 296, 297, 298, 299, 300, 301, 302, 303, 304, 305, 306, 307, 308, 309, 310, 311, 312, 313, 314, 315, 316, 317, 318, 325] rfl (by decide +kernel)
set_option maxRecDepth 100000 in
theorem gL_act_X5_setChoiceRule : GoodIn wsL_act (wsV RL 54 RX5 yX5_setChoiceRule wsX5_setChoiceRule) := goodIn_app (goodIn_of _ (by decide +kernel)) ggL_act_X5_setChoiceRule
set_option maxRecDepth 100000 in
theorem ggL_act_X5_setPairRule : GoodIn wsL_act wsX5_setPairRule := goodIn_r _ [251, 6, 11, 16, 245, 246, 4, 247, 112, 113, 114, 115, 116, 117, 118, 119, 67, 68, 69, 120, 121, 122, 123, 124, 125, 44, 45, 23, 46, 47, 48, 49, 50, 51, 52, 53, 54, 55, 56, 25, 57, 58, 59, 60, 61, 62, 63, 64, 29, 65, 31, 66, 70, 71, 72, 73, 292, 293, 294, 295, 296, 297, 298, 299, 300, 301, 302, 303, 304, 305, 306, 307, 308, 309, 310, 311, 312, 313, 314, 315, 316, 317, 318, 325] rfl (by decide +kernel)
set_option maxRecDepth 100000 in
theorem gL_act_X5_setPairRule : GoodIn wsL_act (wsV RL 57 RX5 yX5_setPairRule wsX5_setPairRule) := goodIn_app (goodIn_of _ (by decide +kernel)) ggL_act_X5_setPairRule
set_option maxRecDepth 100000 in
theorem ggL_act_X5_setUp : GoodIn wsL_act wsX5_setUp := goodIn_r _ [255, 16, 6, 245, 246, 4, 247, 112, 113, 114, 115, 116, 117, 118, 119, 67, 68, 69, 120, 121, 122, 123, 124, 125, 44, 45, 23, 46, 47, 48, 49, 50, 51, 52, 53, 54, 55, 56, 25, 57, 58, 59, 60, 61, 62, 63, 64, 29, 65, 31, 66, 70, 71, 72, 73, 256, 257, 258, 259, 260, 21, 22, 24, 26, 27, 28, 30, 261, 262, 263, 264, 265, 266, 267, 268, 292, 293, 294, 295, 296, 297, 298, 299, 316, 317, 318, 300, 301, 302, 303, 304, 305, 306, 307, 308, 309, 310, 311, 312, 313, 314, 315, 325] rfl (by decide +kernel)
set_option maxRecDepth 100000 in
theorem gL_act_X5_setUp : GoodIn wsL_act (wsV RL 60 RX5 yX5_setUp wsX5_setUp) := goodIn_app (goodIn_of _ (by decide +kernel)) ggL_act_X5_setUp
set_option maxRecDepth 100000 in
theorem ggL_act_X5_connect : GoodIn wsL_act wsX5_connect := goodIn_r _ [272, 41, 6, 42, 43, 44, 45, 23, 46, 47, 48, 49, 50, 51, 52, 53, 54, 55, 56, 25, 57, 58, 59, 60, 61, 62, 63, 64, 29, 65, 31, 66, 67, 68, 69, 70, 71, 72, 73, 273, 274, 275, 77, 276, 277, 278, 279, 280, 81, 82, 83, 84, 85, 86, 87, 88, 26, 27, 28, 30, 281, 230, 231, 232, 155, 156, 157, 158, 159, 160, 161, 162, 163, 99, 100, 101, 164, 165, 166, 167, 102, 4, 103, 168, 169, 170, 171, 172, 140, 141, 173, 174, 175, 176, 177, 178, 179, 180, 181, 182, 183, 184, 185, 186, 187, 147, 89, 188, 105, 106, 107, 282, 283, 284, 285, 104, 189, 190, 191, 192, 148, 142, 95, 96, 97, 98, 193, 194, 195, 196, 108, 109, 110, 111, 16, 112, 113, 114, 115, 116, 117, 118, 119, 120, 121, 122, 123, 124, 125, 292, 293, 294, 295, 296, 297, 298, 299, 300, 301, 302, 303, 304, 305, 306, 307, 308, 309, 310, 311, 312, 313, 314, 315, 325, 326, 327, 328, 329, 330, 316, 317, 318] rfl (by decide +kernel)
set_option maxRecDepth 100000 in
theorem gL_act_X5_connect : GoodIn wsL_act (wsV RL 64 RX5 yX5_connect wsX5_connect) := goodIn_app (goodIn_of _ (by decide +kernel)) ggL_act_X5_connect
set_option maxRecDepth 100000 in
theorem ggL_act_X5_restore : GoodIn wsL_act wsX5_restore := goodIn_r _ [289, 290, 16, 6, 291, 112, 113, 114, 115, 116, 117, 118, 119, 67, 68, 69, 120, 121, 122, 123, 124, 125, 44, 45, 23, 46, 47, 48, 49, 50, 51, 52, 53, 54, 55, 56, 25, 57, 58, 59, 60, 61, 62, 63, 64, 29, 65, 31, 66, 70, 71, 72, 73, 43, 20, 21, 22, 24, 26, 27, 28, 30, 292, 293, 294, 295, 296, 297, 298, 299, 316, 317, 318, 300, 301, 302, 303, 304, 305, 306, 307, 308, 309, 310, 311, 312, 313, 314, 315, 325] rfl (by decide +kernel)
set_option maxRecDepth 100000 in
theorem gL_act_X5_restore : GoodIn wsL_act (wsV RL 67 RX5 yX5_restore wsX5_restore) := goodIn_app (goodIn_of _ (by decide +kernel)) ggL_act_X5_restore
theorem dL_act_0 : decode cL_act 0 = .ok (.aload_n 0, 1) := by decide +kernel
theorem dL_act_1 : decode cL_act 1 = .ok (.iconst 0, 1) := by decide +kernel
theorem dL_act_2 : decode cL_act 2 = .ok (.invokevirtual 11, 3) := by decide +kernel
theorem dL_act_5 : decode cL_act 5 = .ok (.aload_n 0, 1) := by decide +kernel
theorem dL_act_6 : decode cL_act 6 = .ok (.iconst 1, 1) := by decide +kernel
theorem dL_act_7 : decode cL_act 7 = .ok (.invokevirtual 11, 3) := by decide +kernel
theorem dL_act_10 : decode cL_act 10 = .ok (.imul, 1) := by decide +kernel
theorem dL_act_11 : decode cL_act 11 = .ok (.istore_n 3, 1) := by decide +kernel
theorem dL_act_12 : decode cL_act 12 = .ok (.iload_n 1, 1) := by decide +kernel
theorem dL_act_13 : decode cL_act 13 = .ok (.bipush 16, 2) := by decide +kernel
theorem dL_act_15 : decode cL_act 15 = .ok (.invokestatic 38, 3) := by decide +kernel
theorem dL_act_18 : decode cL_act 18 = .ok (.tableswitch 212 0 8 #[50, 50, 62, 78, 94, 99, 109, 119, 181], 50) := by decide +kernel
theorem dL_act_68 : decode cL_act 68 = .ok (.aload_n 0, 1) := by decide +kernel
theorem dL_act_69 : decode cL_act 69 = .ok (.iload_n 2, 1) := by decide +kernel
theorem dL_act_70 : decode cL_act 70 = .ok (.iload_n 3, 1) := by decide +kernel
theorem dL_act_71 : decode cL_act 71 = .ok (.iconst 1, 1) := by decide +kernel
theorem dL_act_72 : decode cL_act 72 = .ok (.iadd, 1) := by decide +kernel
theorem dL_act_73 : decode cL_act 73 = .ok (.invokestatic 38, 3) := by decide +kernel
theorem dL_act_76 : decode cL_act 76 = .ok (.invokevirtual 42, 3) := by decide +kernel
theorem dL_act_79 : decode cL_act 79 = .ok (.ireturn, 1) := by decide +kernel
theorem dL_act_80 : decode cL_act 80 = .ok (.aload_n 0, 1) := by decide +kernel
theorem dL_act_81 : decode cL_act 81 = .ok (.iload_n 2, 1) := by decide +kernel
theorem dL_act_82 : decode cL_act 82 = .ok (.aload_n 0, 1) := by decide +kernel
theorem dL_act_83 : decode cL_act 83 = .ok (.iconst 2, 1) := by decide +kernel
theorem dL_act_84 : decode cL_act 84 = .ok (.invokevirtual 11, 3) := by decide +kernel
theorem dL_act_87 : decode cL_act 87 = .ok (.iconst 1, 1) := by decide +kernel
theorem dL_act_88 : decode cL_act 88 = .ok (.iadd, 1) := by decide +kernel
theorem dL_act_89 : decode cL_act 89 = .ok (.invokestatic 38, 3) := by decide +kernel
theorem dL_act_92 : decode cL_act 92 = .ok (.invokevirtual 45, 3) := by decide +kernel
theorem dL_act_95 : decode cL_act 95 = .ok (.ireturn, 1) := by decide +kernel
theorem dL_act_96 : decode cL_act 96 = .ok (.aload_n 0, 1) := by decide +kernel
theorem dL_act_97 : decode cL_act 97 = .ok (.iload_n 2, 1) := by decide +kernel
theorem dL_act_98 : decode cL_act 98 = .ok (.aload_n 0, 1) := by decide +kernel
theorem dL_act_99 : decode cL_act 99 = .ok (.iconst 2, 1) := by decide +kernel
theorem dL_act_100 : decode cL_act 100 = .ok (.invokevirtual 11, 3) := by decide +kernel
theorem dL_act_103 : decode cL_act 103 = .ok (.iconst 1, 1) := by decide +kernel
theorem dL_act_104 : decode cL_act 104 = .ok (.iadd, 1) := by decide +kernel
theorem dL_act_105 : decode cL_act 105 = .ok (.invokestatic 38, 3) := by decide +kernel
theorem dL_act_108 : decode cL_act 108 = .ok (.invokevirtual 48, 3) := by decide +kernel
theorem dL_act_111 : decode cL_act 111 = .ok (.ireturn, 1) := by decide +kernel
theorem dL_act_112 : decode cL_act 112 = .ok (.aload_n 0, 1) := by decide +kernel
theorem dL_act_113 : decode cL_act 113 = .ok (.invokevirtual 51, 3) := by decide +kernel
theorem dL_act_116 : decode cL_act 116 = .ok (.ireturn, 1) := by decide +kernel
theorem dL_act_117 : decode cL_act 117 = .ok (.aload_n 0, 1) := by decide +kernel
theorem dL_act_118 : decode cL_act 118 = .ok (.iload_n 2, 1) := by decide +kernel
theorem dL_act_119 : decode cL_act 119 = .ok (.iconst 4, 1) := by decide +kernel
theorem dL_act_120 : decode cL_act 120 = .ok (.invokestatic 38, 3) := by decide +kernel
theorem dL_act_123 : decode cL_act 123 = .ok (.invokevirtual 54, 3) := by decide +kernel
theorem dL_act_126 : decode cL_act 126 = .ok (.ireturn, 1) := by decide +kernel
theorem dL_act_127 : decode cL_act 127 = .ok (.aload_n 0, 1) := by decide +kernel
theorem dL_act_128 : decode cL_act 128 = .ok (.iload_n 2, 1) := by decide +kernel
theorem dL_act_129 : decode cL_act 129 = .ok (.iconst 3, 1) := by decide +kernel
theorem dL_act_130 : decode cL_act 130 = .ok (.invokestatic 38, 3) := by decide +kernel
theorem dL_act_133 : decode cL_act 133 = .ok (.invokevirtual 57, 3) := by decide +kernel
theorem dL_act_136 : decode cL_act 136 = .ok (.ireturn, 1) := by decide +kernel
theorem dL_act_137 : decode cL_act 137 = .ok (.iload_n 2, 1) := by decide +kernel
theorem dL_act_138 : decode cL_act 138 = .ok (.iconst 3, 1) := by decide +kernel
theorem dL_act_139 : decode cL_act 139 = .ok (.iand, 1) := by decide +kernel
theorem dL_act_140 : decode cL_act 140 = .ok (.ifCond .ne 41, 3) := by decide +kernel
theorem dL_act_143 : decode cL_act 143 = .ok (.aload_n 0, 1) := by decide +kernel
theorem dL_act_144 : decode cL_act 144 = .ok (.iconst 1, 1) := by decide +kernel
theorem dL_act_145 : decode cL_act 145 = .ok (.iload_n 2, 1) := by decide +kernel
theorem dL_act_146 : decode cL_act 146 = .ok (.iconst 2, 1) := by decide +kernel
theorem dL_act_147 : decode cL_act 147 = .ok (.ishr, 1) := by decide +kernel
theorem dL_act_148 : decode cL_act 148 = .ok (.bipush 8, 2) := by decide +kernel
theorem dL_act_150 : decode cL_act 150 = .ok (.invokestatic 38, 3) := by decide +kernel
theorem dL_act_153 : decode cL_act 153 = .ok (.iadd, 1) := by decide +kernel
theorem dL_act_154 : decode cL_act 154 = .ok (.iconst 1, 1) := by decide +kernel
theorem dL_act_155 : decode cL_act 155 = .ok (.iload_n 2, 1) := by decide +kernel
theorem dL_act_156 : decode cL_act 156 = .ok (.iconst 5, 1) := by decide +kernel
theorem dL_act_157 : decode cL_act 157 = .ok (.ishr, 1) := by decide +kernel
theorem dL_act_158 : decode cL_act 158 = .ok (.bipush 6, 2) := by decide +kernel
theorem dL_act_160 : decode cL_act 160 = .ok (.invokestatic 38, 3) := by decide +kernel
theorem dL_act_163 : decode cL_act 163 = .ok (.iadd, 1) := by decide +kernel
theorem dL_act_164 : decode cL_act 164 = .ok (.iconst 1, 1) := by decide +kernel
theorem dL_act_165 : decode cL_act 165 = .ok (.iload_n 2, 1) := by decide +kernel
theorem dL_act_166 : decode cL_act 166 = .ok (.bipush 8, 2) := by decide +kernel
theorem dL_act_168 : decode cL_act 168 = .ok (.ishr, 1) := by decide +kernel
theorem dL_act_169 : decode cL_act 169 = .ok (.bipush 8, 2) := by decide +kernel
theorem dL_act_171 : decode cL_act 171 = .ok (.invokestatic 38, 3) := by decide +kernel
theorem dL_act_174 : decode cL_act 174 = .ok (.iadd, 1) := by decide +kernel
theorem dL_act_175 : decode cL_act 175 = .ok (.invokevirtual 60, 3) := by decide +kernel
theorem dL_act_178 : decode cL_act 178 = .ok (.goto 20, 3) := by decide +kernel
theorem dL_act_181 : decode cL_act 181 = .ok (.aload_n 0, 1) := by decide +kernel
theorem dL_act_182 : decode cL_act 182 = .ok (.iload_n 2, 1) := by decide +kernel
theorem dL_act_183 : decode cL_act 183 = .ok (.iload_n 3, 1) := by decide +kernel
theorem dL_act_184 : decode cL_act 184 = .ok (.invokestatic 38, 3) := by decide +kernel
theorem dL_act_187 : decode cL_act 187 = .ok (.iload_n 2, 1) := by decide +kernel
theorem dL_act_188 : decode cL_act 188 = .ok (.bipush 7, 2) := by decide +kernel
theorem dL_act_190 : decode cL_act 190 = .ok (.ishr, 1) := by decide +kernel
theorem dL_act_191 : decode cL_act 191 = .ok (.iload_n 3, 1) := by decide +kernel
theorem dL_act_192 : decode cL_act 192 = .ok (.invokestatic 38, 3) := by decide +kernel
theorem dL_act_195 : decode cL_act 195 = .ok (.invokevirtual 64, 3) := by decide +kernel
theorem dL_act_198 : decode cL_act 198 = .ok (.ireturn, 1) := by decide +kernel
theorem dL_act_199 : decode cL_act 199 = .ok (.iload_n 2, 1) := by decide +kernel
theorem dL_act_200 : decode cL_act 200 = .ok (.iconst 3, 1) := by decide +kernel
theorem dL_act_201 : decode cL_act 201 = .ok (.iand, 1) := by decide +kernel
theorem dL_act_202 : decode cL_act 202 = .ok (.ifCond .ne 10, 3) := by decide +kernel
theorem dL_act_205 : decode cL_act 205 = .ok (.aload_n 0, 1) := by decide +kernel
theorem dL_act_206 : decode cL_act 206 = .ok (.invokevirtual 67, 3) := by decide +kernel
theorem dL_act_209 : decode cL_act 209 = .ok (.goto 20, 3) := by decide +kernel
theorem dL_act_212 : decode cL_act 212 = .ok (.aload_n 0, 1) := by decide +kernel
theorem dL_act_213 : decode cL_act 213 = .ok (.iload_n 2, 1) := by decide +kernel
theorem dL_act_214 : decode cL_act 214 = .ok (.iload_n 3, 1) := by decide +kernel
theorem dL_act_215 : decode cL_act 215 = .ok (.invokestatic 38, 3) := by decide +kernel
theorem dL_act_218 : decode cL_act 218 = .ok (.iload_n 2, 1) := by decide +kernel
theorem dL_act_219 : decode cL_act 219 = .ok (.bipush 7, 2) := by decide +kernel
theorem dL_act_221 : decode cL_act 221 = .ok (.ishr, 1) := by decide +kernel
theorem dL_act_222 : decode cL_act 222 = .ok (.iload_n 3, 1) := by decide +kernel
theorem dL_act_223 : decode cL_act 223 = .ok (.invokestatic 38, 3) := by decide +kernel
theorem dL_act_226 : decode cL_act 226 = .ok (.invokevirtual 64, 3) := by decide +kernel
theorem dL_act_229 : decode cL_act 229 = .ok (.ireturn, 1) := by decide +kernel
theorem dL_act_230 : decode cL_act 230 = .ok (.aload_n 0, 1) := by decide +kernel
theorem dL_act_231 : decode cL_act 231 = .ok (.iload_n 2, 1) := by decide +kernel
theorem dL_act_232 : decode cL_act 232 = .ok (.iload_n 3, 1) := by decide +kernel
theorem dL_act_233 : decode cL_act 233 = .ok (.iconst 1, 1) := by decide +kernel
theorem dL_act_234 : decode cL_act 234 = .ok (.iadd, 1) := by decide +kernel
theorem dL_act_235 : decode cL_act 235 = .ok (.invokestatic 38, 3) := by decide +kernel
theorem dL_act_238 : decode cL_act 238 = .ok (.iload_n 2, 1) := by decide +kernel
theorem dL_act_239 : decode cL_act 239 = .ok (.bipush 7, 2) := by decide +kernel
theorem dL_act_241 : decode cL_act 241 = .ok (.ishr, 1) := by decide +kernel
theorem dL_act_242 : decode cL_act 242 = .ok (.iload_n 3, 1) := by decide +kernel
theorem dL_act_243 : decode cL_act 243 = .ok (.iconst 1, 1) := by decide +kernel
theorem dL_act_244 : decode cL_act 244 = .ok (.iadd, 1) := by decide +kernel
theorem dL_act_245 : decode cL_act 245 = .ok (.invokestatic 38, 3) := by decide +kernel
theorem dL_act_248 : decode cL_act 248 = .ok (.invokevirtual 64, 3) := by decide +kernel
theorem dL_act_251 : decode cL_act 251 = .ok (.ireturn, 1) := by decide +kernel
