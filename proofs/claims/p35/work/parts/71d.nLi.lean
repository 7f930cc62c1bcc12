set_option maxRecDepth 100000 in
theorem ggL_isAhead_L_told : GoodIn wsL_isAhead wsL_told := goodIn_r _ [4, 5, 6, 7, 3, 8, 9, 10, 11, 12, 13, 14, 15, 16, 17, 18, 19, 20, 21, 22, 23, 24, 25, 26, 27, 28, 29, 30, 31, 32, 33, 34, 35, 36, 37, 38, 39, 40, 41, 42, 43, 44, 45, 46, 47, 48, 49, 50, 51, 52, 53, 54, 55, 56, 57, 58, 59, 60, 61, 62, 63, 64, 65, 66, 67, 68, 69, 70, 71, 256, 257, 258, 259, 260, 261, 262, 263, 264, 265, 266, 267, 268, 269, 270, 271, 272, 273, 274, 275, 276, 277, 278, 279, 280, 281, 282, 283, 284, 285, 286, 287, 288, 289] rfl (by decide +kernel)
set_option maxRecDepth 100000 in
theorem gL_isAhead_L_told : GoodIn wsL_isAhead (va_wsS RL 97 yL_told wsL_told) := goodIn_app (goodIn_of _ (by decide +kernel)) ggL_isAhead_L_told
set_option maxRecDepth 100000 in
theorem ggL_isAhead_L_ends : GoodIn wsL_isAhead wsL_ends := goodIn_r _ [8, 9, 5, 10, 11, 12, 13, 14, 15, 16, 17, 18, 19, 20, 21, 22, 23, 24, 25, 26, 27, 28, 29, 30, 31, 32, 33, 34, 35, 36, 37, 38, 39, 40, 41, 42, 43, 44, 45, 46, 47, 48, 49, 50, 51, 52, 53, 54, 55, 56, 57, 58, 59, 60, 61, 256, 257, 258, 259, 260, 261, 262, 263, 264, 265, 266, 267, 268, 269, 270, 271, 272, 273, 274, 275, 276, 277, 278, 279, 280, 281, 282, 283, 284, 285, 286, 287, 288, 289] rfl (by decide +kernel)
set_option maxRecDepth 100000 in
theorem gL_isAhead_L_ends : GoodIn wsL_isAhead (va_wsS RL 25 yL_ends wsL_ends) := goodIn_app (goodIn_of _ (by decide +kernel)) ggL_isAhead_L_ends
set_option maxRecDepth 100000 in
theorem ggL_isAhead_X5_total : GoodIn wsL_isAhead wsX5_total := goodIn_r _ [14, 15, 16, 17, 18, 19, 20, 21, 22, 23, 24, 25, 26, 27, 28, 29, 30, 31, 32, 33, 34, 35, 36, 37, 38, 39, 40, 256, 257, 258, 259, 260, 261, 262, 263, 264, 265, 266, 267, 268, 269, 270, 271, 272, 273, 274, 275, 276, 277, 278, 279, 280, 281, 282, 283, 284, 285, 286, 287, 288, 289] rfl (by decide +kernel)
set_option maxRecDepth 100000 in
theorem gL_isAhead_X5_total : GoodIn wsL_isAhead (wsV RL 11 RX5 yX5_total wsX5_total) := goodIn_app (goodIn_of _ (by decide +kernel)) ggL_isAhead_X5_total
set_option maxRecDepth 100000 in
theorem ggL_isAhead_X5_wouldMove : GoodIn wsL_isAhead wsX5_wouldMove := goodIn_r _ [75, 76, 15, 77, 78, 79, 80, 81, 82, 83, 47, 48, 32, 49, 50, 51, 84, 85, 86, 87, 34, 35, 36, 37, 38, 39, 40, 88, 89, 90, 91, 92, 93, 94, 95, 96, 97, 98, 99, 100, 101, 102, 103, 104, 105, 106, 107, 108, 109, 110, 111, 13, 112, 113, 114, 115, 116, 117, 118, 119, 120, 121, 122, 123, 124, 125, 126, 127, 128, 129, 130, 131, 132, 133, 134, 135, 136, 137, 138, 139, 140, 141, 256, 257, 258, 259, 260, 261, 262, 263, 290, 291, 292, 293, 294, 264, 265, 266, 267, 268, 269, 270, 271, 272, 273, 274, 275, 276, 277, 278, 279, 289] rfl (by decide +kernel)
set_option maxRecDepth 100000 in
theorem gL_isAhead_X5_wouldMove : GoodIn wsL_isAhead (wsV RL 101 RX5 yX5_wouldMove wsX5_wouldMove) := goodIn_app (goodIn_of _ (by decide +kernel)) ggL_isAhead_X5_wouldMove
set_option maxRecDepth 100000 in
theorem ggL_isAhead_X5_reason : GoodIn wsL_isAhead wsX5_reason := goodIn_r _ [145, 15, 146, 147, 46, 47, 48, 32, 49, 50, 51, 148, 85, 86, 87, 34, 35, 36, 37, 38, 39, 40, 149, 89, 90, 91, 92, 150, 102, 103, 104, 151, 106, 107, 108, 109, 110, 111, 13, 112, 256, 257, 258, 259, 260, 261, 262, 263, 264, 265, 266, 267, 268, 269, 270, 271, 272, 273, 274, 275, 276, 277, 278, 279, 289] rfl (by decide +kernel)
set_option maxRecDepth 100000 in
theorem gL_isAhead_X5_reason : GoodIn wsL_isAhead (wsV RL 104 RX5 yX5_reason wsX5_reason) := goodIn_app (goodIn_of _ (by decide +kernel)) ggL_isAhead_X5_reason
set_option maxRecDepth 100000 in
theorem ggL_isAhead_X5_connect : GoodIn wsL_isAhead wsX5_connect := goodIn_r _ [155, 156, 15, 76, 157, 158, 159, 32, 160, 50, 51, 109, 110, 161, 162, 163, 164, 165, 166, 34, 167, 168, 92, 124, 169, 170, 171, 172, 38, 173, 40, 174, 175, 176, 177, 178, 179, 180, 181, 182, 183, 184, 81, 185, 186, 79, 80, 82, 83, 47, 48, 49, 84, 85, 86, 87, 35, 36, 37, 39, 88, 89, 90, 91, 93, 94, 95, 96, 97, 98, 99, 100, 101, 102, 103, 104, 105, 106, 107, 108, 111, 13, 112, 113, 114, 115, 116, 117, 118, 119, 120, 121, 122, 123, 125, 126, 127, 128, 129, 130, 131, 132, 133, 134, 135, 136, 137, 138, 139, 140, 141, 187, 188, 189, 190, 191, 192, 193, 194, 195, 196, 197, 198, 199, 200, 201, 202, 203, 204, 205, 206, 207, 208, 209, 25, 210, 211, 212, 213, 214, 215, 216, 217, 218, 219, 220, 221, 222, 223, 256, 257, 258, 259, 260, 261, 262, 263, 264, 265, 266, 267, 268, 269, 270, 271, 272, 273, 274, 275, 276, 277, 278, 279, 289, 290, 291, 292, 293, 294, 280, 281, 282] rfl (by decide +kernel)
set_option maxRecDepth 100000 in
theorem gL_isAhead_X5_connect : GoodIn wsL_isAhead (wsV RL 64 RX5 yX5_connect wsX5_connect) := goodIn_app (goodIn_of _ (by decide +kernel)) ggL_isAhead_X5_connect
set_option maxRecDepth 100000 in
theorem ggL_isAhead_X5_inService : GoodIn wsL_isAhead wsX5_inService := goodIn_r _ [65, 15, 66, 256, 257, 258, 259, 260, 261, 262, 263, 264, 265, 266, 267, 268, 269, 270, 271, 272, 273, 274, 275, 276, 277, 278, 279] rfl (by decide +kernel)
set_option maxRecDepth 100000 in
theorem gL_isAhead_X5_inService : GoodIn wsL_isAhead (wsV RL 31 RX5 yX5_inService wsX5_inService) := goodIn_app (goodIn_of _ (by decide +kernel)) ggL_isAhead_X5_inService
set_option maxRecDepth 100000 in
theorem ggL_isAhead_L_bits : GoodIn wsL_isAhead wsL_bits := goodIn_r _ [226] rfl (by decide +kernel)
set_option maxRecDepth 100000 in
theorem gL_isAhead_L_bits : GoodIn wsL_isAhead (va_wsS RL 94 yL_bits wsL_bits) := goodIn_app (goodIn_of _ (by decide +kernel)) ggL_isAhead_L_bits
set_option maxRecDepth 100000 in
theorem ggL_isAhead_X5_freeForFirst : GoodIn wsL_isAhead wsX5_freeForFirst := goodIn_r _ [230, 15, 146, 231, 232, 233, 32, 234, 50, 151, 106, 107, 108, 109, 110, 111, 13, 112, 35, 36, 37, 38, 39, 40, 256, 257, 258, 259, 260, 261, 262, 263, 264, 265, 266, 267, 268, 269, 270, 271, 272, 273, 274, 275, 276, 277, 278, 279, 289] rfl (by decide +kernel)
set_option maxRecDepth 100000 in
theorem gL_isAhead_X5_freeForFirst : GoodIn wsL_isAhead (wsV RL 85 RX5 yX5_freeForFirst wsX5_freeForFirst) := goodIn_app (goodIn_of _ (by decide +kernel)) ggL_isAhead_X5_freeForFirst
set_option maxRecDepth 100000 in
theorem ggL_isAhead_X5_freeForLast : GoodIn wsL_isAhead wsX5_freeForLast := goodIn_r _ [238, 15, 147, 231, 232, 233, 32, 234, 50, 151, 106, 107, 108, 109, 110, 111, 13, 112, 35, 36, 37, 38, 39, 40, 256, 257, 258, 259, 260, 261, 262, 263, 264, 265, 266, 267, 268, 269, 270, 271, 272, 273, 274, 275, 276, 277, 278, 279, 289] rfl (by decide +kernel)
set_option maxRecDepth 100000 in
theorem gL_isAhead_X5_freeForLast : GoodIn wsL_isAhead (wsV RL 88 RX5 yX5_freeForLast wsX5_freeForLast) := goodIn_app (goodIn_of _ (by decide +kernel)) ggL_isAhead_X5_freeForLast
set_option maxRecDepth 100000 in
theorem ggL_isAhead_X5_chainCall : GoodIn wsL_isAhead wsX5_chainCall := goodIn_r _ [242, 76, 15, 77, 45, 243, 78, 79, 80, 81, 82, 83, 47, 48, 32, 49, 50, 51, 84, 85, 86, 87, 34, 35, 36, 37, 38, 39, 40, 88, 89, 90, 91, 92, 93, 94, 95, 96, 97, 98, 99, 100, 101, 102, 103, 104, 105, 106, 107, 108, 109, 110, 111, 13, 112, 113, 114, 115, 116, 117, 118, 119, 120, 121, 122, 123, 124, 125, 126, 127, 128, 129, 130, 131, 132, 133, 134, 135, 136, 137, 138, 139, 140, 141, 52, 256, 257, 258, 259, 260, 261, 262, 263, 290, 291, 292, 293, 294, 264, 265, 266, 267, 268, 269, 270, 271, 272, 273, 274, 275, 276, 277, 278, 279, 289] rfl (by decide +kernel)
set_option maxRecDepth 100000 in
theorem gL_isAhead_X5_chainCall : GoodIn wsL_isAhead (wsV RL 107 RX5 yX5_chainCall wsX5_chainCall) := goodIn_app (goodIn_of _ (by decide +kernel)) ggL_isAhead_X5_chainCall
set_option maxRecDepth 100000 in
theorem ggL_isAhead_X5_callOfInlet : GoodIn wsL_isAhead wsX5_callOfInlet := goodIn_r _ [44, 15, 45, 46, 47, 48, 32, 49, 50, 51, 52, 36, 37, 38, 39, 40, 256, 257, 258, 259, 260, 261, 262, 263, 264, 265, 266, 267, 268, 269, 270, 271, 272, 273, 274, 275, 276, 277, 278, 279, 289] rfl (by decide +kernel)
set_option maxRecDepth 100000 in
theorem gL_isAhead_X5_callOfInlet : GoodIn wsL_isAhead (wsV RL 17 RX5 yX5_callOfInlet wsX5_callOfInlet) := goodIn_app (goodIn_of _ (by decide +kernel)) ggL_isAhead_X5_callOfInlet
set_option maxRecDepth 100000 in
theorem ggL_isAhead_X5_middleOf : GoodIn wsL_isAhead wsX5_middleOf := goodIn_r _ [70, 15, 71, 58, 59, 60, 32, 61, 34, 35, 36, 37, 38, 39, 40, 52, 256, 257, 258, 259, 260, 261, 262, 263, 264, 265, 266, 267, 268, 269, 270, 271, 272, 273, 274, 275, 276, 277, 278, 279, 289] rfl (by decide +kernel)
set_option maxRecDepth 100000 in
theorem gL_isAhead_X5_middleOf : GoodIn wsL_isAhead (wsV RL 35 RX5 yX5_middleOf wsX5_middleOf) := goodIn_app (goodIn_of _ (by decide +kernel)) ggL_isAhead_X5_middleOf
set_option maxRecDepth 100000 in
theorem ggL_isAhead_X5_outletOf : GoodIn wsL_isAhead wsX5_outletOf := goodIn_r _ [56, 15, 57, 58, 59, 60, 32, 61, 34, 35, 36, 37, 38, 39, 40, 52, 256, 257, 258, 259, 260, 261, 262, 263, 264, 265, 266, 267, 268, 269, 270, 271, 272, 273, 274, 275, 276, 277, 278, 279, 289] rfl (by decide +kernel)
set_option maxRecDepth 100000 in
theorem gL_isAhead_X5_outletOf : GoodIn wsL_isAhead (wsV RL 22 RX5 yX5_outletOf wsX5_outletOf) := goodIn_app (goodIn_of _ (by decide +kernel)) ggL_isAhead_X5_outletOf
set_option maxRecDepth 100000 in
theorem ggL_isAhead_X5_undo : GoodIn wsL_isAhead wsX5_undo := goodIn_r _ [247, 25, 15, 248, 249, 250, 213, 251, 216, 215, 218, 219, 220, 221, 222, 223, 158, 159, 32, 160, 50, 51, 109, 110, 161, 162, 163, 164, 165, 166, 34, 167, 168, 92, 124, 169, 170, 171, 172, 38, 173, 40, 174, 175, 176, 177, 178, 179, 180, 181, 256, 257, 258, 259, 260, 261, 262, 263, 280, 281, 282, 264, 265, 266, 267, 268, 269, 270, 271, 272, 273, 274, 275, 276, 277, 278, 279, 289] rfl (by decide +kernel)
set_option maxRecDepth 100000 in
theorem gL_isAhead_X5_undo : GoodIn wsL_isAhead (wsV RL 110 RX5 yX5_undo wsX5_undo) := goodIn_app (goodIn_of _ (by decide +kernel)) ggL_isAhead_X5_undo
set_option maxRecDepth 100000 in
theorem ggL_isAhead_X5_inletOf : GoodIn wsL_isAhead wsX5_inletOf := goodIn_r _ [255, 15, 58, 59, 60, 32, 61, 34, 35, 36, 37, 38, 39, 40, 256, 257, 258, 259, 260, 261, 262, 263, 264, 265, 266, 267, 268, 269, 270, 271, 272, 273, 274, 275, 276, 277, 278, 279, 289] rfl (by decide +kernel)
set_option maxRecDepth 100000 in
theorem gL_isAhead_X5_inletOf : GoodIn wsL_isAhead (wsV RL 70 RX5 yX5_inletOf wsX5_inletOf) := goodIn_app (goodIn_of _ (by decide +kernel)) ggL_isAhead_X5_inletOf
theorem dL_isAhead_0 : decode cL_isAhead 0 = .ok (.aload_n 0, 1) := by decide +kernel
theorem dL_isAhead_1 : decode cL_isAhead 1 = .ok (.invokestatic 97, 3) := by decide +kernel
theorem dL_isAhead_4 : decode cL_isAhead 4 = .ok (.lstore_n 3, 1) := by decide +kernel
theorem dL_isAhead_5 : decode cL_isAhead 5 = .ok (.aload_n 0, 1) := by decide +kernel
theorem dL_isAhead_6 : decode cL_isAhead 6 = .ok (.iload_n 1, 1) := by decide +kernel
theorem dL_isAhead_7 : decode cL_isAhead 7 = .ok (.invokestatic 25, 3) := by decide +kernel
theorem dL_isAhead_10 : decode cL_isAhead 10 = .ok (.lstore 5, 2) := by decide +kernel
theorem dL_isAhead_12 : decode cL_isAhead 12 = .ok (.aload_n 0, 1) := by decide +kernel
theorem dL_isAhead_13 : decode cL_isAhead 13 = .ok (.iconst 1, 1) := by decide +kernel
theorem dL_isAhead_14 : decode cL_isAhead 14 = .ok (.invokevirtual 11, 3) := by decide +kernel
theorem dL_isAhead_17 : decode cL_isAhead 17 = .ok (.istore 7, 2) := by decide +kernel
theorem dL_isAhead_19 : decode cL_isAhead 19 = .ok (.aload_n 0, 1) := by decide +kernel
theorem dL_isAhead_20 : decode cL_isAhead 20 = .ok (.iload_n 1, 1) := by decide +kernel
theorem dL_isAhead_21 : decode cL_isAhead 21 = .ok (.iload_n 2, 1) := by decide +kernel
theorem dL_isAhead_22 : decode cL_isAhead 22 = .ok (.invokevirtual 101, 3) := by decide +kernel
theorem dL_isAhead_25 : decode cL_isAhead 25 = .ok (.istore 8, 2) := by decide +kernel
theorem dL_isAhead_27 : decode cL_isAhead 27 = .ok (.aload_n 0, 1) := by decide +kernel
theorem dL_isAhead_28 : decode cL_isAhead 28 = .ok (.iload_n 1, 1) := by decide +kernel
theorem dL_isAhead_29 : decode cL_isAhead 29 = .ok (.iload_n 2, 1) := by decide +kernel
theorem dL_isAhead_30 : decode cL_isAhead 30 = .ok (.invokevirtual 104, 3) := by decide +kernel
theorem dL_isAhead_33 : decode cL_isAhead 33 = .ok (.istore 9, 2) := by decide +kernel
theorem dL_isAhead_35 : decode cL_isAhead 35 = .ok (.aload_n 0, 1) := by decide +kernel
theorem dL_isAhead_36 : decode cL_isAhead 36 = .ok (.bipush 9, 2) := by decide +kernel
theorem dL_isAhead_38 : decode cL_isAhead 38 = .ok (.invokevirtual 11, 3) := by decide +kernel
theorem dL_isAhead_41 : decode cL_isAhead 41 = .ok (.istore 10, 2) := by decide +kernel
theorem dL_isAhead_43 : decode cL_isAhead 43 = .ok (.aload_n 0, 1) := by decide +kernel
theorem dL_isAhead_44 : decode cL_isAhead 44 = .ok (.iload_n 1, 1) := by decide +kernel
theorem dL_isAhead_45 : decode cL_isAhead 45 = .ok (.iload_n 2, 1) := by decide +kernel
theorem dL_isAhead_46 : decode cL_isAhead 46 = .ok (.invokevirtual 64, 3) := by decide +kernel
theorem dL_isAhead_49 : decode cL_isAhead 49 = .ok (.istore 11, 2) := by decide +kernel
theorem dL_isAhead_51 : decode cL_isAhead 51 = .ok (.iload 11, 2) := by decide +kernel
theorem dL_isAhead_53 : decode cL_isAhead 53 = .ok (.ifCond .ge 200, 3) := by decide +kernel
theorem dL_isAhead_56 : decode cL_isAhead 56 = .ok (.iload 11, 2) := by decide +kernel
theorem dL_isAhead_58 : decode cL_isAhead 58 = .ok (.iconst (-1), 1) := by decide +kernel
theorem dL_isAhead_59 : decode cL_isAhead 59 = .ok (.if_icmp .ne 18, 3) := by decide +kernel
theorem dL_isAhead_62 : decode cL_isAhead 62 = .ok (.iload 9, 2) := by decide +kernel
theorem dL_isAhead_64 : decode cL_isAhead 64 = .ok (.iload 11, 2) := by decide +kernel
theorem dL_isAhead_66 : decode cL_isAhead 66 = .ok (.if_icmp .ne 7, 3) := by decide +kernel
theorem dL_isAhead_69 : decode cL_isAhead 69 = .ok (.iconst 1, 1) := by decide +kernel
theorem dL_isAhead_70 : decode cL_isAhead 70 = .ok (.goto 51, 3) := by decide +kernel
theorem dL_isAhead_73 : decode cL_isAhead 73 = .ok (.iconst 0, 1) := by decide +kernel
theorem dL_isAhead_74 : decode cL_isAhead 74 = .ok (.goto 47, 3) := by decide +kernel
theorem dL_isAhead_77 : decode cL_isAhead 77 = .ok (.iload 11, 2) := by decide +kernel
theorem dL_isAhead_79 : decode cL_isAhead 79 = .ok (.bipush (-3), 2) := by decide +kernel
theorem dL_isAhead_81 : decode cL_isAhead 81 = .ok (.if_icmp .ne 23, 3) := by decide +kernel
theorem dL_isAhead_84 : decode cL_isAhead 84 = .ok (.iload 9, 2) := by decide +kernel
theorem dL_isAhead_86 : decode cL_isAhead 86 = .ok (.iconst 2, 1) := by decide +kernel
theorem dL_isAhead_87 : decode cL_isAhead 87 = .ok (.if_icmp .eq 9, 3) := by decide +kernel
theorem dL_isAhead_90 : decode cL_isAhead 90 = .ok (.iload 9, 2) := by decide +kernel
theorem dL_isAhead_92 : decode cL_isAhead 92 = .ok (.iconst 3, 1) := by decide +kernel
theorem dL_isAhead_93 : decode cL_isAhead 93 = .ok (.if_icmp .ne 7, 3) := by decide +kernel
theorem dL_isAhead_96 : decode cL_isAhead 96 = .ok (.iconst 1, 1) := by decide +kernel
theorem dL_isAhead_97 : decode cL_isAhead 97 = .ok (.goto 24, 3) := by decide +kernel
theorem dL_isAhead_100 : decode cL_isAhead 100 = .ok (.iconst 0, 1) := by decide +kernel
theorem dL_isAhead_101 : decode cL_isAhead 101 = .ok (.goto 20, 3) := by decide +kernel
theorem dL_isAhead_104 : decode cL_isAhead 104 = .ok (.iload 9, 2) := by decide +kernel
theorem dL_isAhead_106 : decode cL_isAhead 106 = .ok (.iconst 4, 1) := by decide +kernel
theorem dL_isAhead_107 : decode cL_isAhead 107 = .ok (.if_icmp .eq 9, 3) := by decide +kernel
theorem dL_isAhead_110 : decode cL_isAhead 110 = .ok (.iload 9, 2) := by decide +kernel
theorem dL_isAhead_112 : decode cL_isAhead 112 = .ok (.iconst 5, 1) := by decide +kernel
theorem dL_isAhead_113 : decode cL_isAhead 113 = .ok (.if_icmp .ne 7, 3) := by decide +kernel
theorem dL_isAhead_116 : decode cL_isAhead 116 = .ok (.iconst 1, 1) := by decide +kernel
theorem dL_isAhead_117 : decode cL_isAhead 117 = .ok (.goto 4, 3) := by decide +kernel
theorem dL_isAhead_120 : decode cL_isAhead 120 = .ok (.iconst 0, 1) := by decide +kernel
theorem dL_isAhead_121 : decode cL_isAhead 121 = .ok (.istore 12, 2) := by decide +kernel
theorem dL_isAhead_123 : decode cL_isAhead 123 = .ok (.iload 11, 2) := by decide +kernel
theorem dL_isAhead_125 : decode cL_isAhead 125 = .ok (.bipush (-4), 2) := by decide +kernel
theorem dL_isAhead_127 : decode cL_isAhead 127 = .ok (.if_icmp .ne 28, 3) := by decide +kernel
theorem dL_isAhead_130 : decode cL_isAhead 130 = .ok (.aload_n 0, 1) := by decide +kernel
theorem dL_isAhead_131 : decode cL_isAhead 131 = .ok (.invokevirtual 31, 3) := by decide +kernel
theorem dL_isAhead_134 : decode cL_isAhead 134 = .ok (.invokestatic 94, 3) := by decide +kernel
theorem dL_isAhead_137 : decode cL_isAhead 137 = .ok (.aload_n 0, 1) := by decide +kernel
theorem dL_isAhead_138 : decode cL_isAhead 138 = .ok (.iconst 2, 1) := by decide +kernel
theorem dL_isAhead_139 : decode cL_isAhead 139 = .ok (.invokevirtual 11, 3) := by decide +kernel
theorem dL_isAhead_142 : decode cL_isAhead 142 = .ok (.if_icmp .lt 13, 3) := by decide +kernel
theorem dL_isAhead_145 : decode cL_isAhead 145 = .ok (.aload_n 0, 1) := by decide +kernel
theorem dL_isAhead_146 : decode cL_isAhead 146 = .ok (.iconst 2, 1) := by decide +kernel
theorem dL_isAhead_147 : decode cL_isAhead 147 = .ok (.invokevirtual 11, 3) := by decide +kernel
theorem dL_isAhead_150 : decode cL_isAhead 150 = .ok (.iload 7, 2) := by decide +kernel
theorem dL_isAhead_152 : decode cL_isAhead 152 = .ok (.if_icmp .ge 7, 3) := by decide +kernel
theorem dL_isAhead_155 : decode cL_isAhead 155 = .ok (.iconst 1, 1) := by decide +kernel
theorem dL_isAhead_156 : decode cL_isAhead 156 = .ok (.goto 4, 3) := by decide +kernel
theorem dL_isAhead_159 : decode cL_isAhead 159 = .ok (.iconst 0, 1) := by decide +kernel
theorem dL_isAhead_160 : decode cL_isAhead 160 = .ok (.istore 13, 2) := by decide +kernel
theorem dL_isAhead_162 : decode cL_isAhead 162 = .ok (.iload 11, 2) := by decide +kernel
theorem dL_isAhead_164 : decode cL_isAhead 164 = .ok (.bipush (-4), 2) := by decide +kernel
theorem dL_isAhead_166 : decode cL_isAhead 166 = .ok (.if_icmp .ne 31, 3) := by decide +kernel
theorem dL_isAhead_169 : decode cL_isAhead 169 = .ok (.iload 9, 2) := by decide +kernel
theorem dL_isAhead_171 : decode cL_isAhead 171 = .ok (.iconst 4, 1) := by decide +kernel
theorem dL_isAhead_172 : decode cL_isAhead 172 = .ok (.if_icmp .ne 14, 3) := by decide +kernel
theorem dL_isAhead_175 : decode cL_isAhead 175 = .ok (.aload_n 0, 1) := by decide +kernel
theorem dL_isAhead_176 : decode cL_isAhead 176 = .ok (.iload_n 1, 1) := by decide +kernel
theorem dL_isAhead_177 : decode cL_isAhead 177 = .ok (.iload 7, 2) := by decide +kernel
theorem dL_isAhead_179 : decode cL_isAhead 179 = .ok (.idiv, 1) := by decide +kernel
theorem dL_isAhead_180 : decode cL_isAhead 180 = .ok (.invokevirtual 85, 3) := by decide +kernel
theorem dL_isAhead_183 : decode cL_isAhead 183 = .ok (.goto 11, 3) := by decide +kernel
theorem dL_isAhead_186 : decode cL_isAhead 186 = .ok (.aload_n 0, 1) := by decide +kernel
theorem dL_isAhead_187 : decode cL_isAhead 187 = .ok (.iload_n 2, 1) := by decide +kernel
theorem dL_isAhead_188 : decode cL_isAhead 188 = .ok (.iload 7, 2) := by decide +kernel
theorem dL_isAhead_190 : decode cL_isAhead 190 = .ok (.idiv, 1) := by decide +kernel
theorem dL_isAhead_191 : decode cL_isAhead 191 = .ok (.invokevirtual 88, 3) := by decide +kernel
theorem dL_isAhead_194 : decode cL_isAhead 194 = .ok (.ifCond .ne 7, 3) := by decide +kernel
theorem dL_isAhead_197 : decode cL_isAhead 197 = .ok (.iconst 1, 1) := by decide +kernel
theorem dL_isAhead_198 : decode cL_isAhead 198 = .ok (.goto 4, 3) := by decide +kernel
theorem dL_isAhead_201 : decode cL_isAhead 201 = .ok (.iconst 0, 1) := by decide +kernel
theorem dL_isAhead_202 : decode cL_isAhead 202 = .ok (.istore 14, 2) := by decide +kernel
theorem dL_isAhead_204 : decode cL_isAhead 204 = .ok (.iload 8, 2) := by decide +kernel
theorem dL_isAhead_206 : decode cL_isAhead 206 = .ok (.iload 11, 2) := by decide +kernel
theorem dL_isAhead_208 : decode cL_isAhead 208 = .ok (.if_icmp .ne 43, 3) := by decide +kernel
theorem dL_isAhead_211 : decode cL_isAhead 211 = .ok (.iload 12, 2) := by decide +kernel
theorem dL_isAhead_213 : decode cL_isAhead 213 = .ok (.ifCond .eq 38, 3) := by decide +kernel
theorem dL_isAhead_216 : decode cL_isAhead 216 = .ok (.iload 13, 2) := by decide +kernel
theorem dL_isAhead_218 : decode cL_isAhead 218 = .ok (.ifCond .eq 33, 3) := by decide +kernel
theorem dL_isAhead_221 : decode cL_isAhead 221 = .ok (.iload 14, 2) := by decide +kernel
theorem dL_isAhead_223 : decode cL_isAhead 223 = .ok (.ifCond .eq 28, 3) := by decide +kernel
theorem dL_isAhead_226 : decode cL_isAhead 226 = .ok (.aload_n 0, 1) := by decide +kernel
theorem dL_isAhead_227 : decode cL_isAhead 227 = .ok (.invokestatic 97, 3) := by decide +kernel
theorem dL_isAhead_230 : decode cL_isAhead 230 = .ok (.lload_n 3, 1) := by decide +kernel
theorem dL_isAhead_231 : decode cL_isAhead 231 = .ok (.lcmp, 1) := by decide +kernel
theorem dL_isAhead_232 : decode cL_isAhead 232 = .ok (.ifCond .ne 19, 3) := by decide +kernel
theorem dL_isAhead_235 : decode cL_isAhead 235 = .ok (.aload_n 0, 1) := by decide +kernel
theorem dL_isAhead_236 : decode cL_isAhead 236 = .ok (.iload_n 1, 1) := by decide +kernel
theorem dL_isAhead_237 : decode cL_isAhead 237 = .ok (.iload_n 2, 1) := by decide +kernel
theorem dL_isAhead_238 : decode cL_isAhead 238 = .ok (.iconst 0, 1) := by decide +kernel
theorem dL_isAhead_239 : decode cL_isAhead 239 = .ok (.invokevirtual 107, 3) := by decide +kernel
theorem dL_isAhead_242 : decode cL_isAhead 242 = .ok (.iload 11, 2) := by decide +kernel
theorem dL_isAhead_244 : decode cL_isAhead 244 = .ok (.if_icmp .ne 7, 3) := by decide +kernel
theorem dL_isAhead_247 : decode cL_isAhead 247 = .ok (.iconst 1, 1) := by decide +kernel
theorem dL_isAhead_248 : decode cL_isAhead 248 = .ok (.goto 4, 3) := by decide +kernel
theorem dL_isAhead_251 : decode cL_isAhead 251 = .ok (.iconst 0, 1) := by decide +kernel
theorem dL_isAhead_252 : decode cL_isAhead 252 = .ok (.ireturn, 1) := by decide +kernel
theorem dL_isAhead_253 : decode cL_isAhead 253 = .ok (.iload 8, 2) := by decide +kernel
theorem dL_isAhead_255 : decode cL_isAhead 255 = .ok (.ifCond .lt 74, 3) := by decide +kernel
theorem dL_isAhead_258 : decode cL_isAhead 258 = .ok (.iload 9, 2) := by decide +kernel
theorem dL_isAhead_260 : decode cL_isAhead 260 = .ok (.iload 8, 2) := by decide +kernel
theorem dL_isAhead_262 : decode cL_isAhead 262 = .ok (.ifCond .le 7, 3) := by decide +kernel
theorem dL_isAhead_265 : decode cL_isAhead 265 = .ok (.iconst 1, 1) := by decide +kernel
theorem dL_isAhead_266 : decode cL_isAhead 266 = .ok (.goto 4, 3) := by decide +kernel
theorem dL_isAhead_269 : decode cL_isAhead 269 = .ok (.iconst 0, 1) := by decide +kernel
theorem dL_isAhead_270 : decode cL_isAhead 270 = .ok (.if_icmp .ne 59, 3) := by decide +kernel
theorem dL_isAhead_273 : decode cL_isAhead 273 = .ok (.aload_n 0, 1) := by decide +kernel
theorem dL_isAhead_274 : decode cL_isAhead 274 = .ok (.bipush 9, 2) := by decide +kernel
theorem dL_isAhead_276 : decode cL_isAhead 276 = .ok (.invokevirtual 11, 3) := by decide +kernel
theorem dL_isAhead_279 : decode cL_isAhead 279 = .ok (.iload 10, 2) := by decide +kernel
theorem dL_isAhead_281 : decode cL_isAhead 281 = .ok (.iload 8, 2) := by decide +kernel
theorem dL_isAhead_283 : decode cL_isAhead 283 = .ok (.iadd, 1) := by decide +kernel
theorem dL_isAhead_284 : decode cL_isAhead 284 = .ok (.if_icmp .ne 45, 3) := by decide +kernel
theorem dL_isAhead_287 : decode cL_isAhead 287 = .ok (.aload_n 0, 1) := by decide +kernel
theorem dL_isAhead_288 : decode cL_isAhead 288 = .ok (.iload_n 1, 1) := by decide +kernel
theorem dL_isAhead_289 : decode cL_isAhead 289 = .ok (.invokestatic 25, 3) := by decide +kernel
theorem dL_isAhead_292 : decode cL_isAhead 292 = .ok (.lload 5, 2) := by decide +kernel
theorem dL_isAhead_294 : decode cL_isAhead 294 = .ok (.lcmp, 1) := by decide +kernel
theorem dL_isAhead_295 : decode cL_isAhead 295 = .ok (.ifCond .ne 34, 3) := by decide +kernel
theorem dL_isAhead_298 : decode cL_isAhead 298 = .ok (.aload_n 0, 1) := by decide +kernel
theorem dL_isAhead_299 : decode cL_isAhead 299 = .ok (.aload_n 0, 1) := by decide +kernel
theorem dL_isAhead_300 : decode cL_isAhead 300 = .ok (.iload_n 1, 1) := by decide +kernel
theorem dL_isAhead_301 : decode cL_isAhead 301 = .ok (.invokevirtual 17, 3) := by decide +kernel
theorem dL_isAhead_304 : decode cL_isAhead 304 = .ok (.invokevirtual 35, 3) := by decide +kernel
theorem dL_isAhead_307 : decode cL_isAhead 307 = .ok (.iload 11, 2) := by decide +kernel
theorem dL_isAhead_309 : decode cL_isAhead 309 = .ok (.if_icmp .ne 20, 3) := by decide +kernel
theorem dL_isAhead_312 : decode cL_isAhead 312 = .ok (.aload_n 0, 1) := by decide +kernel
theorem dL_isAhead_313 : decode cL_isAhead 313 = .ok (.aload_n 0, 1) := by decide +kernel
theorem dL_isAhead_314 : decode cL_isAhead 314 = .ok (.iload_n 1, 1) := by decide +kernel
theorem dL_isAhead_315 : decode cL_isAhead 315 = .ok (.invokevirtual 17, 3) := by decide +kernel
theorem dL_isAhead_318 : decode cL_isAhead 318 = .ok (.invokevirtual 22, 3) := by decide +kernel
theorem dL_isAhead_321 : decode cL_isAhead 321 = .ok (.iload_n 2, 1) := by decide +kernel
theorem dL_isAhead_322 : decode cL_isAhead 322 = .ok (.if_icmp .ne 7, 3) := by decide +kernel
theorem dL_isAhead_325 : decode cL_isAhead 325 = .ok (.iconst 1, 1) := by decide +kernel
theorem dL_isAhead_326 : decode cL_isAhead 326 = .ok (.goto 4, 3) := by decide +kernel
theorem dL_isAhead_329 : decode cL_isAhead 329 = .ok (.iconst 0, 1) := by decide +kernel
theorem dL_isAhead_330 : decode cL_isAhead 330 = .ok (.istore 12, 2) := by decide +kernel
theorem dL_isAhead_332 : decode cL_isAhead 332 = .ok (.iload 12, 2) := by decide +kernel
theorem dL_isAhead_334 : decode cL_isAhead 334 = .ok (.ifCond .eq 61, 3) := by decide +kernel
theorem dL_isAhead_337 : decode cL_isAhead 337 = .ok (.aload_n 0, 1) := by decide +kernel
theorem dL_isAhead_338 : decode cL_isAhead 338 = .ok (.invokevirtual 110, 3) := by decide +kernel
theorem dL_isAhead_341 : decode cL_isAhead 341 = .ok (.ifCond .lt 54, 3) := by decide +kernel
theorem dL_isAhead_344 : decode cL_isAhead 344 = .ok (.aload_n 0, 1) := by decide +kernel
theorem dL_isAhead_345 : decode cL_isAhead 345 = .ok (.invokestatic 97, 3) := by decide +kernel
theorem dL_isAhead_348 : decode cL_isAhead 348 = .ok (.lload_n 3, 1) := by decide +kernel
theorem dL_isAhead_349 : decode cL_isAhead 349 = .ok (.lcmp, 1) := by decide +kernel
theorem dL_isAhead_350 : decode cL_isAhead 350 = .ok (.ifCond .ne 45, 3) := by decide +kernel
theorem dL_isAhead_353 : decode cL_isAhead 353 = .ok (.aload_n 0, 1) := by decide +kernel
theorem dL_isAhead_354 : decode cL_isAhead 354 = .ok (.iload_n 1, 1) := by decide +kernel
theorem dL_isAhead_355 : decode cL_isAhead 355 = .ok (.iload 7, 2) := by decide +kernel
theorem dL_isAhead_357 : decode cL_isAhead 357 = .ok (.idiv, 1) := by decide +kernel
theorem dL_isAhead_358 : decode cL_isAhead 358 = .ok (.invokevirtual 85, 3) := by decide +kernel
theorem dL_isAhead_361 : decode cL_isAhead 361 = .ok (.aload_n 0, 1) := by decide +kernel
theorem dL_isAhead_362 : decode cL_isAhead 362 = .ok (.iload_n 2, 1) := by decide +kernel
theorem dL_isAhead_363 : decode cL_isAhead 363 = .ok (.iload 7, 2) := by decide +kernel
theorem dL_isAhead_365 : decode cL_isAhead 365 = .ok (.idiv, 1) := by decide +kernel
theorem dL_isAhead_366 : decode cL_isAhead 366 = .ok (.invokevirtual 88, 3) := by decide +kernel
theorem dL_isAhead_369 : decode cL_isAhead 369 = .ok (.iand, 1) := by decide +kernel
theorem dL_isAhead_370 : decode cL_isAhead 370 = .ok (.ifCond .eq 7, 3) := by decide +kernel
theorem dL_isAhead_373 : decode cL_isAhead 373 = .ok (.iconst 1, 1) := by decide +kernel
theorem dL_isAhead_374 : decode cL_isAhead 374 = .ok (.goto 4, 3) := by decide +kernel
theorem dL_isAhead_377 : decode cL_isAhead 377 = .ok (.iconst 0, 1) := by decide +kernel
theorem dL_isAhead_378 : decode cL_isAhead 378 = .ok (.iload 8, 2) := by decide +kernel
theorem dL_isAhead_380 : decode cL_isAhead 380 = .ok (.ifCond .ne 7, 3) := by decide +kernel
theorem dL_isAhead_383 : decode cL_isAhead 383 = .ok (.iconst 1, 1) := by decide +kernel
theorem dL_isAhead_384 : decode cL_isAhead 384 = .ok (.goto 4, 3) := by decide +kernel
theorem dL_isAhead_387 : decode cL_isAhead 387 = .ok (.iconst 0, 1) := by decide +kernel
theorem dL_isAhead_388 : decode cL_isAhead 388 = .ok (.if_icmp .ne 7, 3) := by decide +kernel
theorem dL_isAhead_391 : decode cL_isAhead 391 = .ok (.iconst 1, 1) := by decide +kernel
theorem dL_isAhead_392 : decode cL_isAhead 392 = .ok (.goto 4, 3) := by decide +kernel
theorem dL_isAhead_395 : decode cL_isAhead 395 = .ok (.iconst 0, 1) := by decide +kernel
theorem dL_isAhead_396 : decode cL_isAhead 396 = .ok (.istore 12, 2) := by decide +kernel
theorem dL_isAhead_398 : decode cL_isAhead 398 = .ok (.iconst 0, 1) := by decide +kernel
theorem dL_isAhead_399 : decode cL_isAhead 399 = .ok (.istore 13, 2) := by decide +kernel
theorem dL_isAhead_401 : decode cL_isAhead 401 = .ok (.iload 13, 2) := by decide +kernel
theorem dL_isAhead_403 : decode cL_isAhead 403 = .ok (.iload 8, 2) := by decide +kernel
theorem dL_isAhead_405 : decode cL_isAhead 405 = .ok (.iconst 2, 1) := by decide +kernel
theorem dL_isAhead_406 : decode cL_isAhead 406 = .ok (.iadd, 1) := by decide +kernel
theorem dL_isAhead_407 : decode cL_isAhead 407 = .ok (.if_icmp .ge 62, 3) := by decide +kernel
theorem dL_isAhead_410 : decode cL_isAhead 410 = .ok (.iload 12, 2) := by decide +kernel
theorem dL_isAhead_412 : decode cL_isAhead 412 = .ok (.ifCond .eq 57, 3) := by decide +kernel
theorem dL_isAhead_415 : decode cL_isAhead 415 = .ok (.aload_n 0, 1) := by decide +kernel
theorem dL_isAhead_416 : decode cL_isAhead 416 = .ok (.iload_n 1, 1) := by decide +kernel
theorem dL_isAhead_417 : decode cL_isAhead 417 = .ok (.iload_n 2, 1) := by decide +kernel
theorem dL_isAhead_418 : decode cL_isAhead 418 = .ok (.iload 13, 2) := by decide +kernel
theorem dL_isAhead_420 : decode cL_isAhead 420 = .ok (.invokevirtual 107, 3) := by decide +kernel
theorem dL_isAhead_423 : decode cL_isAhead 423 = .ok (.istore 14, 2) := by decide +kernel
theorem dL_isAhead_425 : decode cL_isAhead 425 = .ok (.iload 13, 2) := by decide +kernel
theorem dL_isAhead_427 : decode cL_isAhead 427 = .ok (.iload 8, 2) := by decide +kernel
theorem dL_isAhead_429 : decode cL_isAhead 429 = .ok (.if_icmp .ge 20, 3) := by decide +kernel
theorem dL_isAhead_432 : decode cL_isAhead 432 = .ok (.aload_n 0, 1) := by decide +kernel
theorem dL_isAhead_433 : decode cL_isAhead 433 = .ok (.iload 14, 2) := by decide +kernel
theorem dL_isAhead_435 : decode cL_isAhead 435 = .ok (.invokevirtual 70, 3) := by decide +kernel
theorem dL_isAhead_438 : decode cL_isAhead 438 = .ok (.ifCond .lt 7, 3) := by decide +kernel
theorem dL_isAhead_441 : decode cL_isAhead 441 = .ok (.iconst 1, 1) := by decide +kernel
theorem dL_isAhead_442 : decode cL_isAhead 442 = .ok (.goto 19, 3) := by decide +kernel
theorem dL_isAhead_445 : decode cL_isAhead 445 = .ok (.iconst 0, 1) := by decide +kernel
theorem dL_isAhead_446 : decode cL_isAhead 446 = .ok (.goto 15, 3) := by decide +kernel
theorem dL_isAhead_449 : decode cL_isAhead 449 = .ok (.iload 14, 2) := by decide +kernel
theorem dL_isAhead_451 : decode cL_isAhead 451 = .ok (.bipush (-6), 2) := by decide +kernel
theorem dL_isAhead_453 : decode cL_isAhead 453 = .ok (.if_icmp .ne 7, 3) := by decide +kernel
theorem dL_isAhead_456 : decode cL_isAhead 456 = .ok (.iconst 1, 1) := by decide +kernel
theorem dL_isAhead_457 : decode cL_isAhead 457 = .ok (.goto 4, 3) := by decide +kernel
theorem dL_isAhead_460 : decode cL_isAhead 460 = .ok (.iconst 0, 1) := by decide +kernel
theorem dL_isAhead_461 : decode cL_isAhead 461 = .ok (.istore 12, 2) := by decide +kernel
theorem dL_isAhead_463 : decode cL_isAhead 463 = .ok (.iinc 13 1, 3) := by decide +kernel
theorem dL_isAhead_466 : decode cL_isAhead 466 = .ok (.goto (-65), 3) := by decide +kernel
theorem dL_isAhead_469 : decode cL_isAhead 469 = .ok (.iload 12, 2) := by decide +kernel
theorem dL_isAhead_471 : decode cL_isAhead 471 = .ok (.ireturn, 1) := by decide +kernel
