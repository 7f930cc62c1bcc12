set_option maxRecDepth 100000 in
theorem ggL_holds_X5_total : GoodIn wsL_holds wsX5_total := goodIn_r _ [5, 6, 7, 8, 9, 10, 11, 12, 13, 14, 15, 16, 17, 18, 19, 20, 21, 22, 23, 24, 25, 26, 27, 28, 29, 30, 31, 141, 142, 143, 144, 145, 146, 147, 148, 149, 150, 151, 152, 153, 154, 155, 156, 157, 158, 159, 160, 161, 162, 163, 164, 165, 166, 167, 168, 169, 170, 171, 172, 173, 174] rfl (by decide +kernel)
set_option maxRecDepth 100000 in
theorem gL_holds_X5_total : GoodIn wsL_holds (wsV RL 11 RX5 yX5_total wsX5_total) := goodIn_app (goodIn_of _ (by decide +kernel)) ggL_holds_X5_total
set_option maxRecDepth 100000 in
theorem ggL_holds_X5_callOfInlet : GoodIn wsL_holds wsX5_callOfInlet := goodIn_r _ [35, 6, 36, 37, 38, 39, 23, 40, 41, 42, 43, 27, 28, 29, 30, 31, 141, 142, 143, 144, 145, 146, 147, 148, 149, 150, 151, 152, 153, 154, 155, 156, 157, 158, 159, 160, 161, 162, 163, 164, 174] rfl (by decide +kernel)
set_option maxRecDepth 100000 in
theorem gL_holds_X5_callOfInlet : GoodIn wsL_holds (wsV RL 17 RX5 yX5_callOfInlet wsX5_callOfInlet) := goodIn_app (goodIn_of _ (by decide +kernel)) ggL_holds_X5_callOfInlet
set_option maxRecDepth 100000 in
theorem ggL_holds_X5_middleOf : GoodIn wsL_holds wsX5_middleOf := goodIn_r _ [47, 6, 48, 49, 50, 51, 23, 52, 25, 26, 27, 28, 29, 30, 31, 43, 141, 142, 143, 144, 145, 146, 147, 148, 149, 150, 151, 152, 153, 154, 155, 156, 157, 158, 159, 160, 161, 162, 163, 164, 174] rfl (by decide +kernel)
set_option maxRecDepth 100000 in
theorem gL_holds_X5_middleOf : GoodIn wsL_holds (wsV RL 35 RX5 yX5_middleOf wsX5_middleOf) := goodIn_app (goodIn_of _ (by decide +kernel)) ggL_holds_X5_middleOf
set_option maxRecDepth 100000 in
theorem ggL_holds_X5_outletOf : GoodIn wsL_holds wsX5_outletOf := goodIn_r _ [56, 6, 57, 49, 50, 51, 23, 52, 25, 26, 27, 28, 29, 30, 31, 43, 141, 142, 143, 144, 145, 146, 147, 148, 149, 150, 151, 152, 153, 154, 155, 156, 157, 158, 159, 160, 161, 162, 163, 164, 174] rfl (by decide +kernel)
set_option maxRecDepth 100000 in
theorem gL_holds_X5_outletOf : GoodIn wsL_holds (wsV RL 22 RX5 yX5_outletOf wsX5_outletOf) := goodIn_app (goodIn_of _ (by decide +kernel)) ggL_holds_X5_outletOf
set_option maxRecDepth 100000 in
theorem ggL_holds_X5_inletOf : GoodIn wsL_holds wsX5_inletOf := goodIn_r _ [61, 6, 49, 50, 51, 23, 52, 25, 26, 27, 28, 29, 30, 31, 141, 142, 143, 144, 145, 146, 147, 148, 149, 150, 151, 152, 153, 154, 155, 156, 157, 158, 159, 160, 161, 162, 163, 164, 174] rfl (by decide +kernel)
set_option maxRecDepth 100000 in
theorem gL_holds_X5_inletOf : GoodIn wsL_holds (wsV RL 70 RX5 yX5_inletOf wsX5_inletOf) := goodIn_app (goodIn_of _ (by decide +kernel)) ggL_holds_X5_inletOf
set_option maxRecDepth 100000 in
theorem ggL_holds_X5_callOfOutlet : GoodIn wsL_holds wsX5_callOfOutlet := goodIn_r _ [65, 6, 36, 66, 37, 38, 39, 23, 40, 41, 42, 43, 27, 28, 29, 30, 31, 141, 142, 143, 144, 145, 146, 147, 148, 149, 150, 151, 152, 153, 154, 155, 156, 157, 158, 159, 160, 161, 162, 163, 164, 174] rfl (by decide +kernel)
set_option maxRecDepth 100000 in
theorem gL_holds_X5_callOfOutlet : GoodIn wsL_holds (wsV RL 73 RX5 yX5_callOfOutlet wsX5_callOfOutlet) := goodIn_app (goodIn_of _ (by decide +kernel)) ggL_holds_X5_callOfOutlet
set_option maxRecDepth 100000 in
theorem ggL_holds_X5_inService : GoodIn wsL_holds wsX5_inService := goodIn_r _ [70, 6, 71, 141, 142, 143, 144, 145, 146, 147, 148, 149, 150, 151, 152, 153, 154, 155, 156, 157, 158, 159, 160, 161, 162, 163, 164] rfl (by decide +kernel)
set_option maxRecDepth 100000 in
theorem gL_holds_X5_inService : GoodIn wsL_holds (wsV RL 31 RX5 yX5_inService wsX5_inService) := goodIn_app (goodIn_of _ (by decide +kernel)) ggL_holds_X5_inService
set_option maxRecDepth 100000 in
theorem ggL_holds_X5_onFirstLink : GoodIn wsL_holds wsX5_onFirstLink := goodIn_r _ [75, 6, 36, 76, 77, 78, 79, 23, 80, 41, 81, 82, 83, 84, 85, 86, 87, 4, 88, 43, 27, 28, 29, 30, 31, 141, 142, 143, 144, 145, 146, 147, 148, 149, 150, 151, 152, 153, 154, 155, 156, 157, 158, 159, 160, 161, 162, 163, 164, 174] rfl (by decide +kernel)
set_option maxRecDepth 100000 in
theorem gL_holds_X5_onFirstLink : GoodIn wsL_holds (wsV RL 76 RX5 yX5_onFirstLink wsX5_onFirstLink) := goodIn_app (goodIn_of _ (by decide +kernel)) ggL_holds_X5_onFirstLink
set_option maxRecDepth 100000 in
theorem ggL_holds_X5_onLastLink : GoodIn wsL_holds wsX5_onLastLink := goodIn_r _ [92, 6, 36, 93, 81, 82, 83, 23, 84, 85, 77, 78, 79, 80, 41, 86, 87, 4, 88, 43, 27, 28, 29, 30, 31, 141, 142, 143, 144, 145, 146, 147, 148, 149, 150, 151, 152, 153, 154, 155, 156, 157, 158, 159, 160, 161, 162, 163, 164, 174] rfl (by decide +kernel)
set_option maxRecDepth 100000 in
theorem gL_holds_X5_onLastLink : GoodIn wsL_holds (wsV RL 79 RX5 yX5_onLastLink wsX5_onLastLink) := goodIn_app (goodIn_of _ (by decide +kernel)) ggL_holds_X5_onLastLink
set_option maxRecDepth 100000 in
theorem ggL_holds_X5_load : GoodIn wsL_holds wsX5_load := goodIn_r _ [97, 6, 81, 82, 83, 23, 84, 85, 98, 99, 100, 101, 41, 102, 87, 4, 88, 26, 27, 28, 29, 30, 31, 141, 142, 143, 144, 145, 146, 147, 148, 149, 150, 151, 152, 153, 154, 155, 156, 157, 158, 159, 160, 161, 162, 163, 164, 174] rfl (by decide +kernel)
set_option maxRecDepth 100000 in
theorem gL_holds_X5_load : GoodIn wsL_holds (wsV RL 82 RX5 yX5_load wsX5_load) := goodIn_app (goodIn_of _ (by decide +kernel)) ggL_holds_X5_load
set_option maxRecDepth 100000 in
theorem ggL_holds_X5_freeForFirst : GoodIn wsL_holds wsX5_freeForFirst := goodIn_r _ [106, 6, 76, 77, 78, 79, 23, 80, 41, 107, 108, 109, 110, 85, 111, 87, 4, 88, 26, 27, 28, 29, 30, 31, 141, 142, 143, 144, 145, 146, 147, 148, 149, 150, 151, 152, 153, 154, 155, 156, 157, 158, 159, 160, 161, 162, 163, 164, 174] rfl (by decide +kernel)
set_option maxRecDepth 100000 in
theorem gL_holds_X5_freeForFirst : GoodIn wsL_holds (wsV RL 85 RX5 yX5_freeForFirst wsX5_freeForFirst) := goodIn_app (goodIn_of _ (by decide +kernel)) ggL_holds_X5_freeForFirst
set_option maxRecDepth 100000 in
theorem ggL_holds_X5_freeForLast : GoodIn wsL_holds wsX5_freeForLast := goodIn_r _ [115, 6, 93, 77, 78, 79, 23, 80, 41, 107, 108, 109, 110, 85, 111, 87, 4, 88, 26, 27, 28, 29, 30, 31, 141, 142, 143, 144, 145, 146, 147, 148, 149, 150, 151, 152, 153, 154, 155, 156, 157, 158, 159, 160, 161, 162, 163, 164, 174] rfl (by decide +kernel)
set_option maxRecDepth 100000 in
theorem gL_holds_X5_freeForLast : GoodIn wsL_holds (wsV RL 88 RX5 yX5_freeForLast wsX5_freeForLast) := goodIn_app (goodIn_of _ (by decide +kernel)) ggL_holds_X5_freeForLast
set_option maxRecDepth 100000 in
theorem ggL_holds_X5_leastMiddles : GoodIn wsL_holds wsX5_leastMiddles := goodIn_r _ [119, 6, 120, 121, 122, 23, 123, 41, 42, 124, 125, 126, 127, 128, 129, 130, 131, 25, 26, 27, 28, 29, 30, 31, 132, 133, 134, 135, 136, 141, 142, 143, 144, 145, 146, 147, 148, 149, 150, 151, 152, 153, 154, 155, 156, 157, 158, 159, 160, 161, 162, 163, 164, 174] rfl (by decide +kernel)
set_option maxRecDepth 100000 in
theorem gL_holds_X5_leastMiddles : GoodIn wsL_holds (wsV RL 91 RX5 yX5_leastMiddles wsX5_leastMiddles) := goodIn_app (goodIn_of _ (by decide +kernel)) ggL_holds_X5_leastMiddles
set_option maxRecDepth 100000 in
theorem ggL_holds_L_bits : GoodIn wsL_holds wsL_bits := goodIn_r _ [140] rfl (by decide +kernel)
set_option maxRecDepth 100000 in
theorem gL_holds_L_bits : GoodIn wsL_holds (va_wsS RL 94 yL_bits wsL_bits) := goodIn_app (goodIn_of _ (by decide +kernel)) ggL_holds_L_bits
theorem dL_holds_0 : decode cL_holds 0 = .ok (.aload_n 0, 1) := by decide +kernel
theorem dL_holds_1 : decode cL_holds 1 = .ok (.iconst 1, 1) := by decide +kernel
theorem dL_holds_2 : decode cL_holds 2 = .ok (.invokevirtual 11, 3) := by decide +kernel
theorem dL_holds_5 : decode cL_holds 5 = .ok (.istore_n 1, 1) := by decide +kernel
theorem dL_holds_6 : decode cL_holds 6 = .ok (.iconst 0, 1) := by decide +kernel
theorem dL_holds_7 : decode cL_holds 7 = .ok (.istore_n 2, 1) := by decide +kernel
theorem dL_holds_8 : decode cL_holds 8 = .ok (.iconst 1, 1) := by decide +kernel
theorem dL_holds_9 : decode cL_holds 9 = .ok (.istore_n 3, 1) := by decide +kernel
theorem dL_holds_10 : decode cL_holds 10 = .ok (.iconst 0, 1) := by decide +kernel
theorem dL_holds_11 : decode cL_holds 11 = .ok (.istore 4, 2) := by decide +kernel
theorem dL_holds_13 : decode cL_holds 13 = .ok (.iload 4, 2) := by decide +kernel
theorem dL_holds_15 : decode cL_holds 15 = .ok (.aload_n 0, 1) := by decide +kernel
theorem dL_holds_16 : decode cL_holds 16 = .ok (.iconst 0, 1) := by decide +kernel
theorem dL_holds_17 : decode cL_holds 17 = .ok (.invokevirtual 11, 3) := by decide +kernel
theorem dL_holds_20 : decode cL_holds 20 = .ok (.iload_n 1, 1) := by decide +kernel
theorem dL_holds_21 : decode cL_holds 21 = .ok (.imul, 1) := by decide +kernel
theorem dL_holds_22 : decode cL_holds 22 = .ok (.if_icmp .ge 134, 3) := by decide +kernel
theorem dL_holds_25 : decode cL_holds 25 = .ok (.aload_n 0, 1) := by decide +kernel
theorem dL_holds_26 : decode cL_holds 26 = .ok (.iload 4, 2) := by decide +kernel
theorem dL_holds_28 : decode cL_holds 28 = .ok (.invokevirtual 17, 3) := by decide +kernel
theorem dL_holds_31 : decode cL_holds 31 = .ok (.istore 5, 2) := by decide +kernel
theorem dL_holds_33 : decode cL_holds 33 = .ok (.iload 5, 2) := by decide +kernel
theorem dL_holds_35 : decode cL_holds 35 = .ok (.bipush (-6), 2) := by decide +kernel
theorem dL_holds_37 : decode cL_holds 37 = .ok (.if_icmp .eq 113, 3) := by decide +kernel
theorem dL_holds_40 : decode cL_holds 40 = .ok (.aload_n 0, 1) := by decide +kernel
theorem dL_holds_41 : decode cL_holds 41 = .ok (.iload 5, 2) := by decide +kernel
theorem dL_holds_43 : decode cL_holds 43 = .ok (.invokevirtual 35, 3) := by decide +kernel
theorem dL_holds_46 : decode cL_holds 46 = .ok (.istore 6, 2) := by decide +kernel
theorem dL_holds_48 : decode cL_holds 48 = .ok (.aload_n 0, 1) := by decide +kernel
theorem dL_holds_49 : decode cL_holds 49 = .ok (.iload 5, 2) := by decide +kernel
theorem dL_holds_51 : decode cL_holds 51 = .ok (.invokevirtual 22, 3) := by decide +kernel
theorem dL_holds_54 : decode cL_holds 54 = .ok (.istore 7, 2) := by decide +kernel
theorem dL_holds_56 : decode cL_holds 56 = .ok (.iinc 2 1, 3) := by decide +kernel
theorem dL_holds_59 : decode cL_holds 59 = .ok (.iload_n 3, 1) := by decide +kernel
theorem dL_holds_60 : decode cL_holds 60 = .ok (.ifCond .eq 88, 3) := by decide +kernel
theorem dL_holds_63 : decode cL_holds 63 = .ok (.iload 5, 2) := by decide +kernel
theorem dL_holds_65 : decode cL_holds 65 = .ok (.ifCond .lt 83, 3) := by decide +kernel
theorem dL_holds_68 : decode cL_holds 68 = .ok (.iload 5, 2) := by decide +kernel
theorem dL_holds_70 : decode cL_holds 70 = .ok (.aload_n 0, 1) := by decide +kernel
theorem dL_holds_71 : decode cL_holds 71 = .ok (.bipush 6, 2) := by decide +kernel
theorem dL_holds_73 : decode cL_holds 73 = .ok (.invokevirtual 11, 3) := by decide +kernel
theorem dL_holds_76 : decode cL_holds 76 = .ok (.if_icmp .ge 72, 3) := by decide +kernel
theorem dL_holds_79 : decode cL_holds 79 = .ok (.aload_n 0, 1) := by decide +kernel
theorem dL_holds_80 : decode cL_holds 80 = .ok (.iload 5, 2) := by decide +kernel
theorem dL_holds_82 : decode cL_holds 82 = .ok (.invokevirtual 70, 3) := by decide +kernel
theorem dL_holds_85 : decode cL_holds 85 = .ok (.iload 4, 2) := by decide +kernel
theorem dL_holds_87 : decode cL_holds 87 = .ok (.if_icmp .ne 61, 3) := by decide +kernel
theorem dL_holds_90 : decode cL_holds 90 = .ok (.aload_n 0, 1) := by decide +kernel
theorem dL_holds_91 : decode cL_holds 91 = .ok (.iload 7, 2) := by decide +kernel
theorem dL_holds_93 : decode cL_holds 93 = .ok (.invokevirtual 73, 3) := by decide +kernel
theorem dL_holds_96 : decode cL_holds 96 = .ok (.iload 5, 2) := by decide +kernel
theorem dL_holds_98 : decode cL_holds 98 = .ok (.if_icmp .ne 50, 3) := by decide +kernel
theorem dL_holds_101 : decode cL_holds 101 = .ok (.aload_n 0, 1) := by decide +kernel
theorem dL_holds_102 : decode cL_holds 102 = .ok (.invokevirtual 31, 3) := by decide +kernel
theorem dL_holds_105 : decode cL_holds 105 = .ok (.iload 6, 2) := by decide +kernel
theorem dL_holds_107 : decode cL_holds 107 = .ok (.ishr, 1) := by decide +kernel
theorem dL_holds_108 : decode cL_holds 108 = .ok (.iconst 1, 1) := by decide +kernel
theorem dL_holds_109 : decode cL_holds 109 = .ok (.iand, 1) := by decide +kernel
theorem dL_holds_110 : decode cL_holds 110 = .ok (.iconst 1, 1) := by decide +kernel
theorem dL_holds_111 : decode cL_holds 111 = .ok (.if_icmp .ne 37, 3) := by decide +kernel
theorem dL_holds_114 : decode cL_holds 114 = .ok (.aload_n 0, 1) := by decide +kernel
theorem dL_holds_115 : decode cL_holds 115 = .ok (.iload 4, 2) := by decide +kernel
theorem dL_holds_117 : decode cL_holds 117 = .ok (.iload_n 1, 1) := by decide +kernel
theorem dL_holds_118 : decode cL_holds 118 = .ok (.idiv, 1) := by decide +kernel
theorem dL_holds_119 : decode cL_holds 119 = .ok (.iload 6, 2) := by decide +kernel
theorem dL_holds_121 : decode cL_holds 121 = .ok (.invokevirtual 76, 3) := by decide +kernel
theorem dL_holds_124 : decode cL_holds 124 = .ok (.iload 5, 2) := by decide +kernel
theorem dL_holds_126 : decode cL_holds 126 = .ok (.if_icmp .ne 22, 3) := by decide +kernel
theorem dL_holds_129 : decode cL_holds 129 = .ok (.aload_n 0, 1) := by decide +kernel
theorem dL_holds_130 : decode cL_holds 130 = .ok (.iload 6, 2) := by decide +kernel
theorem dL_holds_132 : decode cL_holds 132 = .ok (.iload 7, 2) := by decide +kernel
theorem dL_holds_134 : decode cL_holds 134 = .ok (.iload_n 1, 1) := by decide +kernel
theorem dL_holds_135 : decode cL_holds 135 = .ok (.idiv, 1) := by decide +kernel
theorem dL_holds_136 : decode cL_holds 136 = .ok (.invokevirtual 79, 3) := by decide +kernel
theorem dL_holds_139 : decode cL_holds 139 = .ok (.iload 5, 2) := by decide +kernel
theorem dL_holds_141 : decode cL_holds 141 = .ok (.if_icmp .ne 7, 3) := by decide +kernel
theorem dL_holds_144 : decode cL_holds 144 = .ok (.iconst 1, 1) := by decide +kernel
theorem dL_holds_145 : decode cL_holds 145 = .ok (.goto 4, 3) := by decide +kernel
theorem dL_holds_148 : decode cL_holds 148 = .ok (.iconst 0, 1) := by decide +kernel
theorem dL_holds_149 : decode cL_holds 149 = .ok (.istore_n 3, 1) := by decide +kernel
theorem dL_holds_150 : decode cL_holds 150 = .ok (.iinc 4 1, 3) := by decide +kernel
theorem dL_holds_153 : decode cL_holds 153 = .ok (.goto (-140), 3) := by decide +kernel
theorem dL_holds_156 : decode cL_holds 156 = .ok (.iconst 0, 1) := by decide +kernel
theorem dL_holds_157 : decode cL_holds 157 = .ok (.istore 4, 2) := by decide +kernel
theorem dL_holds_159 : decode cL_holds 159 = .ok (.iconst 0, 1) := by decide +kernel
theorem dL_holds_160 : decode cL_holds 160 = .ok (.istore 5, 2) := by decide +kernel
theorem dL_holds_162 : decode cL_holds 162 = .ok (.iconst 0, 1) := by decide +kernel
theorem dL_holds_163 : decode cL_holds 163 = .ok (.istore 6, 2) := by decide +kernel
theorem dL_holds_165 : decode cL_holds 165 = .ok (.iconst 0, 1) := by decide +kernel
theorem dL_holds_166 : decode cL_holds 166 = .ok (.istore 7, 2) := by decide +kernel
theorem dL_holds_168 : decode cL_holds 168 = .ok (.iload 7, 2) := by decide +kernel
theorem dL_holds_170 : decode cL_holds 170 = .ok (.aload_n 0, 1) := by decide +kernel
theorem dL_holds_171 : decode cL_holds 171 = .ok (.iconst 2, 1) := by decide +kernel
theorem dL_holds_172 : decode cL_holds 172 = .ok (.invokevirtual 11, 3) := by decide +kernel
theorem dL_holds_175 : decode cL_holds 175 = .ok (.if_icmp .ge 197, 3) := by decide +kernel
theorem dL_holds_178 : decode cL_holds 178 = .ok (.iload 4, 2) := by decide +kernel
theorem dL_holds_180 : decode cL_holds 180 = .ok (.aload_n 0, 1) := by decide +kernel
theorem dL_holds_181 : decode cL_holds 181 = .ok (.iload 7, 2) := by decide +kernel
theorem dL_holds_183 : decode cL_holds 183 = .ok (.invokevirtual 82, 3) := by decide +kernel
theorem dL_holds_186 : decode cL_holds 186 = .ok (.iadd, 1) := by decide +kernel
theorem dL_holds_187 : decode cL_holds 187 = .ok (.istore 4, 2) := by decide +kernel
theorem dL_holds_189 : decode cL_holds 189 = .ok (.iconst 0, 1) := by decide +kernel
theorem dL_holds_190 : decode cL_holds 190 = .ok (.istore 8, 2) := by decide +kernel
theorem dL_holds_192 : decode cL_holds 192 = .ok (.iload 8, 2) := by decide +kernel
theorem dL_holds_194 : decode cL_holds 194 = .ok (.aload_n 0, 1) := by decide +kernel
theorem dL_holds_195 : decode cL_holds 195 = .ok (.iconst 0, 1) := by decide +kernel
theorem dL_holds_196 : decode cL_holds 196 = .ok (.invokevirtual 11, 3) := by decide +kernel
theorem dL_holds_199 : decode cL_holds 199 = .ok (.if_icmp .ge 167, 3) := by decide +kernel
theorem dL_holds_202 : decode cL_holds 202 = .ok (.aload_n 0, 1) := by decide +kernel
theorem dL_holds_203 : decode cL_holds 203 = .ok (.invokevirtual 31, 3) := by decide +kernel
theorem dL_holds_206 : decode cL_holds 206 = .ok (.iload 7, 2) := by decide +kernel
theorem dL_holds_208 : decode cL_holds 208 = .ok (.ishr, 1) := by decide +kernel
theorem dL_holds_209 : decode cL_holds 209 = .ok (.iconst 1, 1) := by decide +kernel
theorem dL_holds_210 : decode cL_holds 210 = .ok (.iand, 1) := by decide +kernel
theorem dL_holds_211 : decode cL_holds 211 = .ok (.iconst 1, 1) := by decide +kernel
theorem dL_holds_212 : decode cL_holds 212 = .ok (.if_icmp .ne 7, 3) := by decide +kernel
theorem dL_holds_215 : decode cL_holds 215 = .ok (.iconst 1, 1) := by decide +kernel
theorem dL_holds_216 : decode cL_holds 216 = .ok (.goto 4, 3) := by decide +kernel
theorem dL_holds_219 : decode cL_holds 219 = .ok (.iconst 0, 1) := by decide +kernel
theorem dL_holds_220 : decode cL_holds 220 = .ok (.istore 9, 2) := by decide +kernel
theorem dL_holds_222 : decode cL_holds 222 = .ok (.aload_n 0, 1) := by decide +kernel
theorem dL_holds_223 : decode cL_holds 223 = .ok (.iload 8, 2) := by decide +kernel
theorem dL_holds_225 : decode cL_holds 225 = .ok (.iload 7, 2) := by decide +kernel
theorem dL_holds_227 : decode cL_holds 227 = .ok (.invokevirtual 76, 3) := by decide +kernel
theorem dL_holds_230 : decode cL_holds 230 = .ok (.bipush (-6), 2) := by decide +kernel
theorem dL_holds_232 : decode cL_holds 232 = .ok (.if_icmp .ne 7, 3) := by decide +kernel
theorem dL_holds_235 : decode cL_holds 235 = .ok (.iconst 1, 1) := by decide +kernel
theorem dL_holds_236 : decode cL_holds 236 = .ok (.goto 4, 3) := by decide +kernel
theorem dL_holds_239 : decode cL_holds 239 = .ok (.iconst 0, 1) := by decide +kernel
theorem dL_holds_240 : decode cL_holds 240 = .ok (.istore 10, 2) := by decide +kernel
theorem dL_holds_242 : decode cL_holds 242 = .ok (.aload_n 0, 1) := by decide +kernel
theorem dL_holds_243 : decode cL_holds 243 = .ok (.iload 7, 2) := by decide +kernel
theorem dL_holds_245 : decode cL_holds 245 = .ok (.iload 8, 2) := by decide +kernel
theorem dL_holds_247 : decode cL_holds 247 = .ok (.invokevirtual 79, 3) := by decide +kernel
theorem dL_holds_250 : decode cL_holds 250 = .ok (.bipush (-6), 2) := by decide +kernel
theorem dL_holds_252 : decode cL_holds 252 = .ok (.if_icmp .ne 7, 3) := by decide +kernel
theorem dL_holds_255 : decode cL_holds 255 = .ok (.iconst 1, 1) := by decide +kernel
theorem dL_holds_256 : decode cL_holds 256 = .ok (.goto 4, 3) := by decide +kernel
theorem dL_holds_259 : decode cL_holds 259 = .ok (.iconst 0, 1) := by decide +kernel
theorem dL_holds_260 : decode cL_holds 260 = .ok (.istore 11, 2) := by decide +kernel
theorem dL_holds_262 : decode cL_holds 262 = .ok (.iload 5, 2) := by decide +kernel
theorem dL_holds_264 : decode cL_holds 264 = .ok (.iload 10, 2) := by decide +kernel
theorem dL_holds_266 : decode cL_holds 266 = .ok (.ifCond .eq 7, 3) := by decide +kernel
theorem dL_holds_269 : decode cL_holds 269 = .ok (.iconst 0, 1) := by decide +kernel
theorem dL_holds_270 : decode cL_holds 270 = .ok (.goto 4, 3) := by decide +kernel
theorem dL_holds_273 : decode cL_holds 273 = .ok (.iconst 1, 1) := by decide +kernel
theorem dL_holds_274 : decode cL_holds 274 = .ok (.iadd, 1) := by decide +kernel
theorem dL_holds_275 : decode cL_holds 275 = .ok (.istore 5, 2) := by decide +kernel
theorem dL_holds_277 : decode cL_holds 277 = .ok (.iload 6, 2) := by decide +kernel
theorem dL_holds_279 : decode cL_holds 279 = .ok (.iload 11, 2) := by decide +kernel
theorem dL_holds_281 : decode cL_holds 281 = .ok (.ifCond .eq 7, 3) := by decide +kernel
theorem dL_holds_284 : decode cL_holds 284 = .ok (.iconst 0, 1) := by decide +kernel
theorem dL_holds_285 : decode cL_holds 285 = .ok (.goto 4, 3) := by decide +kernel
theorem dL_holds_288 : decode cL_holds 288 = .ok (.iconst 1, 1) := by decide +kernel
theorem dL_holds_289 : decode cL_holds 289 = .ok (.iadd, 1) := by decide +kernel
theorem dL_holds_290 : decode cL_holds 290 = .ok (.istore 6, 2) := by decide +kernel
theorem dL_holds_292 : decode cL_holds 292 = .ok (.iload_n 3, 1) := by decide +kernel
theorem dL_holds_293 : decode cL_holds 293 = .ok (.ifCond .eq 65, 3) := by decide +kernel
theorem dL_holds_296 : decode cL_holds 296 = .ok (.aload_n 0, 1) := by decide +kernel
theorem dL_holds_297 : decode cL_holds 297 = .ok (.iload 8, 2) := by decide +kernel
theorem dL_holds_299 : decode cL_holds 299 = .ok (.invokevirtual 85, 3) := by decide +kernel
theorem dL_holds_302 : decode cL_holds 302 = .ok (.iload 7, 2) := by decide +kernel
theorem dL_holds_304 : decode cL_holds 304 = .ok (.ishr, 1) := by decide +kernel
theorem dL_holds_305 : decode cL_holds 305 = .ok (.iconst 1, 1) := by decide +kernel
theorem dL_holds_306 : decode cL_holds 306 = .ok (.iand, 1) := by decide +kernel
theorem dL_holds_307 : decode cL_holds 307 = .ok (.iload 9, 2) := by decide +kernel
theorem dL_holds_309 : decode cL_holds 309 = .ok (.ifCond .eq 12, 3) := by decide +kernel
theorem dL_holds_312 : decode cL_holds 312 = .ok (.iload 10, 2) := by decide +kernel
theorem dL_holds_314 : decode cL_holds 314 = .ok (.ifCond .eq 7, 3) := by decide +kernel
theorem dL_holds_317 : decode cL_holds 317 = .ok (.iconst 1, 1) := by decide +kernel
theorem dL_holds_318 : decode cL_holds 318 = .ok (.goto 4, 3) := by decide +kernel
theorem dL_holds_321 : decode cL_holds 321 = .ok (.iconst 0, 1) := by decide +kernel
theorem dL_holds_322 : decode cL_holds 322 = .ok (.if_icmp .ne 36, 3) := by decide +kernel
theorem dL_holds_325 : decode cL_holds 325 = .ok (.aload_n 0, 1) := by decide +kernel
theorem dL_holds_326 : decode cL_holds 326 = .ok (.iload 8, 2) := by decide +kernel
theorem dL_holds_328 : decode cL_holds 328 = .ok (.invokevirtual 88, 3) := by decide +kernel
theorem dL_holds_331 : decode cL_holds 331 = .ok (.iload 7, 2) := by decide +kernel
theorem dL_holds_333 : decode cL_holds 333 = .ok (.ishr, 1) := by decide +kernel
theorem dL_holds_334 : decode cL_holds 334 = .ok (.iconst 1, 1) := by decide +kernel
theorem dL_holds_335 : decode cL_holds 335 = .ok (.iand, 1) := by decide +kernel
theorem dL_holds_336 : decode cL_holds 336 = .ok (.iload 9, 2) := by decide +kernel
theorem dL_holds_338 : decode cL_holds 338 = .ok (.ifCond .eq 12, 3) := by decide +kernel
theorem dL_holds_341 : decode cL_holds 341 = .ok (.iload 11, 2) := by decide +kernel
theorem dL_holds_343 : decode cL_holds 343 = .ok (.ifCond .eq 7, 3) := by decide +kernel
theorem dL_holds_346 : decode cL_holds 346 = .ok (.iconst 1, 1) := by decide +kernel
theorem dL_holds_347 : decode cL_holds 347 = .ok (.goto 4, 3) := by decide +kernel
theorem dL_holds_350 : decode cL_holds 350 = .ok (.iconst 0, 1) := by decide +kernel
theorem dL_holds_351 : decode cL_holds 351 = .ok (.if_icmp .ne 7, 3) := by decide +kernel
theorem dL_holds_354 : decode cL_holds 354 = .ok (.iconst 1, 1) := by decide +kernel
theorem dL_holds_355 : decode cL_holds 355 = .ok (.goto 4, 3) := by decide +kernel
theorem dL_holds_358 : decode cL_holds 358 = .ok (.iconst 0, 1) := by decide +kernel
theorem dL_holds_359 : decode cL_holds 359 = .ok (.istore_n 3, 1) := by decide +kernel
theorem dL_holds_360 : decode cL_holds 360 = .ok (.iinc 8 1, 3) := by decide +kernel
theorem dL_holds_363 : decode cL_holds 363 = .ok (.goto (-171), 3) := by decide +kernel
theorem dL_holds_366 : decode cL_holds 366 = .ok (.iinc 7 1, 3) := by decide +kernel
theorem dL_holds_369 : decode cL_holds 369 = .ok (.goto (-201), 3) := by decide +kernel
theorem dL_holds_372 : decode cL_holds 372 = .ok (.aload_n 0, 1) := by decide +kernel
theorem dL_holds_373 : decode cL_holds 373 = .ok (.invokevirtual 91, 3) := by decide +kernel
theorem dL_holds_376 : decode cL_holds 376 = .ok (.aload_n 0, 1) := by decide +kernel
theorem dL_holds_377 : decode cL_holds 377 = .ok (.invokevirtual 31, 3) := by decide +kernel
theorem dL_holds_380 : decode cL_holds 380 = .ok (.invokestatic 94, 3) := by decide +kernel
theorem dL_holds_383 : decode cL_holds 383 = .ok (.if_icmp .gt 39, 3) := by decide +kernel
theorem dL_holds_386 : decode cL_holds 386 = .ok (.aload_n 0, 1) := by decide +kernel
theorem dL_holds_387 : decode cL_holds 387 = .ok (.invokevirtual 91, 3) := by decide +kernel
theorem dL_holds_390 : decode cL_holds 390 = .ok (.iload_n 1, 1) := by decide +kernel
theorem dL_holds_391 : decode cL_holds 391 = .ok (.if_icmp .gt 31, 3) := by decide +kernel
theorem dL_holds_394 : decode cL_holds 394 = .ok (.aload_n 0, 1) := by decide +kernel
theorem dL_holds_395 : decode cL_holds 395 = .ok (.invokevirtual 91, 3) := by decide +kernel
theorem dL_holds_398 : decode cL_holds 398 = .ok (.ifCond .le 7, 3) := by decide +kernel
theorem dL_holds_401 : decode cL_holds 401 = .ok (.iconst 1, 1) := by decide +kernel
theorem dL_holds_402 : decode cL_holds 402 = .ok (.goto 4, 3) := by decide +kernel
theorem dL_holds_405 : decode cL_holds 405 = .ok (.iconst 0, 1) := by decide +kernel
theorem dL_holds_406 : decode cL_holds 406 = .ok (.iload_n 2, 1) := by decide +kernel
theorem dL_holds_407 : decode cL_holds 407 = .ok (.ifCond .le 7, 3) := by decide +kernel
theorem dL_holds_410 : decode cL_holds 410 = .ok (.iconst 1, 1) := by decide +kernel
theorem dL_holds_411 : decode cL_holds 411 = .ok (.goto 4, 3) := by decide +kernel
theorem dL_holds_414 : decode cL_holds 414 = .ok (.iconst 0, 1) := by decide +kernel
theorem dL_holds_415 : decode cL_holds 415 = .ok (.if_icmp .ne 7, 3) := by decide +kernel
theorem dL_holds_418 : decode cL_holds 418 = .ok (.iconst 1, 1) := by decide +kernel
theorem dL_holds_419 : decode cL_holds 419 = .ok (.goto 4, 3) := by decide +kernel
theorem dL_holds_422 : decode cL_holds 422 = .ok (.iconst 0, 1) := by decide +kernel
theorem dL_holds_423 : decode cL_holds 423 = .ok (.istore 7, 2) := by decide +kernel
theorem dL_holds_425 : decode cL_holds 425 = .ok (.iload_n 3, 1) := by decide +kernel
theorem dL_holds_426 : decode cL_holds 426 = .ok (.ifCond .eq 67, 3) := by decide +kernel
theorem dL_holds_429 : decode cL_holds 429 = .ok (.iload 7, 2) := by decide +kernel
theorem dL_holds_431 : decode cL_holds 431 = .ok (.ifCond .eq 62, 3) := by decide +kernel
theorem dL_holds_434 : decode cL_holds 434 = .ok (.iload_n 2, 1) := by decide +kernel
theorem dL_holds_435 : decode cL_holds 435 = .ok (.aload_n 0, 1) := by decide +kernel
theorem dL_holds_436 : decode cL_holds 436 = .ok (.iconst 5, 1) := by decide +kernel
theorem dL_holds_437 : decode cL_holds 437 = .ok (.invokevirtual 11, 3) := by decide +kernel
theorem dL_holds_440 : decode cL_holds 440 = .ok (.if_icmp .ne 53, 3) := by decide +kernel
theorem dL_holds_443 : decode cL_holds 443 = .ok (.iload 4, 2) := by decide +kernel
theorem dL_holds_445 : decode cL_holds 445 = .ok (.iload_n 2, 1) := by decide +kernel
theorem dL_holds_446 : decode cL_holds 446 = .ok (.if_icmp .ne 47, 3) := by decide +kernel
theorem dL_holds_449 : decode cL_holds 449 = .ok (.iload 5, 2) := by decide +kernel
theorem dL_holds_451 : decode cL_holds 451 = .ok (.iload_n 2, 1) := by decide +kernel
theorem dL_holds_452 : decode cL_holds 452 = .ok (.if_icmp .ne 41, 3) := by decide +kernel
theorem dL_holds_455 : decode cL_holds 455 = .ok (.iload 6, 2) := by decide +kernel
theorem dL_holds_457 : decode cL_holds 457 = .ok (.iload_n 2, 1) := by decide +kernel
theorem dL_holds_458 : decode cL_holds 458 = .ok (.if_icmp .ne 35, 3) := by decide +kernel
theorem dL_holds_461 : decode cL_holds 461 = .ok (.aload_n 0, 1) := by decide +kernel
theorem dL_holds_462 : decode cL_holds 462 = .ok (.bipush 6, 2) := by decide +kernel
theorem dL_holds_464 : decode cL_holds 464 = .ok (.invokevirtual 11, 3) := by decide +kernel
theorem dL_holds_467 : decode cL_holds 467 = .ok (.aload_n 0, 1) := by decide +kernel
theorem dL_holds_468 : decode cL_holds 468 = .ok (.iconst 5, 1) := by decide +kernel
theorem dL_holds_469 : decode cL_holds 469 = .ok (.invokevirtual 11, 3) := by decide +kernel
theorem dL_holds_472 : decode cL_holds 472 = .ok (.aload_n 0, 1) := by decide +kernel
theorem dL_holds_473 : decode cL_holds 473 = .ok (.bipush 7, 2) := by decide +kernel
theorem dL_holds_475 : decode cL_holds 475 = .ok (.invokevirtual 11, 3) := by decide +kernel
theorem dL_holds_478 : decode cL_holds 478 = .ok (.iadd, 1) := by decide +kernel
theorem dL_holds_479 : decode cL_holds 479 = .ok (.aload_n 0, 1) := by decide +kernel
theorem dL_holds_480 : decode cL_holds 480 = .ok (.bipush 8, 2) := by decide +kernel
theorem dL_holds_482 : decode cL_holds 482 = .ok (.invokevirtual 11, 3) := by decide +kernel
theorem dL_holds_485 : decode cL_holds 485 = .ok (.iadd, 1) := by decide +kernel
theorem dL_holds_486 : decode cL_holds 486 = .ok (.if_icmp .ne 7, 3) := by decide +kernel
theorem dL_holds_489 : decode cL_holds 489 = .ok (.iconst 1, 1) := by decide +kernel
theorem dL_holds_490 : decode cL_holds 490 = .ok (.goto 4, 3) := by decide +kernel
theorem dL_holds_493 : decode cL_holds 493 = .ok (.iconst 0, 1) := by decide +kernel
theorem dL_holds_494 : decode cL_holds 494 = .ok (.ireturn, 1) := by decide +kernel
