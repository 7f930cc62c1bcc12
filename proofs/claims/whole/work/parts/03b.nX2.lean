set_option maxRecDepth 20000 in
theorem ggX2_init_X4_init : GoodIn wsX2_init wsX4_init := goodIn_r _ [10, 11, 2, 3, 12, 13, 14, 15, 16, 17, 18, 19, 20, 21, 22] (by decide +kernel) (by decide +kernel)
set_option maxRecDepth 20000 in
theorem gX2_init_X4_init : GoodIn wsX2_init (wsX4_init) := ggX2_init_X4_init
theorem dX2_init_0 : decode cX2_init 0 = .ok (.aload_n 0, 1) := by decide +kernel
theorem dX2_init_1 : decode cX2_init 1 = .ok (.invokespecial 3, 3) := by decide +kernel
theorem dX2_init_4 : decode cX2_init 4 = .ok (.aload_n 0, 1) := by decide +kernel
theorem dX2_init_5 : decode cX2_init 5 = .ok (.new 9, 3) := by decide +kernel
theorem dX2_init_8 : decode cX2_init 8 = .ok (.dup, 1) := by decide +kernel
theorem dX2_init_9 : decode cX2_init 9 = .ok (.bipush 60, 2) := by decide +kernel
theorem dX2_init_11 : decode cX2_init 11 = .ok (.invokespecial 11, 3) := by decide +kernel
theorem dX2_init_14 : decode cX2_init 14 = .ok (.putfield 14, 3) := by decide +kernel
theorem dX2_init_17 : decode cX2_init 17 = .ok (.return_, 1) := by decide +kernel
set_option maxRecDepth 20000 in
theorem ggX2_append_X4_set : GoodIn wsX2_append wsX4_set := goodIn_r _ [7, 8, 15] (by decide +kernel) (by decide +kernel)
set_option maxRecDepth 20000 in
theorem gX2_append_X4_set : GoodIn wsX2_append (wsV RX2 24 RX4 yX4_set wsX4_set) := goodIn_app (goodIn_of _ (by decide +kernel)) ggX2_append_X4_set
theorem dX2_append_0 : decode cX2_append 0 = .ok (.aload_n 0, 1) := by decide +kernel
theorem dX2_append_1 : decode cX2_append 1 = .ok (.getfield 20, 3) := by decide +kernel
theorem dX2_append_4 : decode cX2_append 4 = .ok (.bipush 60, 2) := by decide +kernel
theorem dX2_append_6 : decode cX2_append 6 = .ok (.if_icmp .lt 6, 3) := by decide +kernel
theorem dX2_append_9 : decode cX2_append 9 = .ok (.bipush (-5), 2) := by decide +kernel
theorem dX2_append_11 : decode cX2_append 11 = .ok (.ireturn, 1) := by decide +kernel
theorem dX2_append_12 : decode cX2_append 12 = .ok (.aload_n 0, 1) := by decide +kernel
theorem dX2_append_13 : decode cX2_append 13 = .ok (.getfield 14, 3) := by decide +kernel
theorem dX2_append_16 : decode cX2_append 16 = .ok (.aload_n 0, 1) := by decide +kernel
theorem dX2_append_17 : decode cX2_append 17 = .ok (.getfield 20, 3) := by decide +kernel
theorem dX2_append_20 : decode cX2_append 20 = .ok (.iload_n 1, 1) := by decide +kernel
theorem dX2_append_21 : decode cX2_append 21 = .ok (.invokevirtual 24, 3) := by decide +kernel
theorem dX2_append_24 : decode cX2_append 24 = .ok (.aload_n 0, 1) := by decide +kernel
theorem dX2_append_25 : decode cX2_append 25 = .ok (.dup, 1) := by decide +kernel
theorem dX2_append_26 : decode cX2_append 26 = .ok (.getfield 20, 3) := by decide +kernel
theorem dX2_append_29 : decode cX2_append 29 = .ok (.iconst 1, 1) := by decide +kernel
theorem dX2_append_30 : decode cX2_append 30 = .ok (.iadd, 1) := by decide +kernel
theorem dX2_append_31 : decode cX2_append 31 = .ok (.putfield 20, 3) := by decide +kernel
theorem dX2_append_34 : decode cX2_append 34 = .ok (.aload_n 0, 1) := by decide +kernel
theorem dX2_append_35 : decode cX2_append 35 = .ok (.getfield 20, 3) := by decide +kernel
theorem dX2_append_38 : decode cX2_append 38 = .ok (.ireturn, 1) := by decide +kernel
theorem dX2_rewind_0 : decode cX2_rewind 0 = .ok (.aload_n 0, 1) := by decide +kernel
theorem dX2_rewind_1 : decode cX2_rewind 1 = .ok (.iconst 0, 1) := by decide +kernel
theorem dX2_rewind_2 : decode cX2_rewind 2 = .ok (.putfield 28, 3) := by decide +kernel
theorem dX2_rewind_5 : decode cX2_rewind 5 = .ok (.return_, 1) := by decide +kernel
set_option maxRecDepth 20000 in
theorem ggX2_findFault_X2_rewind : GoodIn wsX2_findFault wsX2_rewind := goodIn_r _ [7, 1, 38, 39, 40, 41, 42, 43] (by decide +kernel) (by decide +kernel)
set_option maxRecDepth 20000 in
theorem gX2_findFault_X2_rewind : GoodIn wsX2_findFault (wsV RX2 31 RX2 yX2_rewind wsX2_rewind) := goodIn_app (goodIn_of _ (by decide +kernel)) ggX2_findFault_X2_rewind
set_option maxRecDepth 20000 in
theorem ggX2_findFault_X2_readOrder : GoodIn wsX2_findFault wsX2_readOrder := goodIn_r _ [11, 12, 1, 13, 14, 15, 16, 17, 6, 18, 2, 19, 20, 21, 22, 23, 24, 25, 26, 27, 28, 29, 30, 31, 32, 33, 34, 35, 36, 37, 38, 39, 40, 41, 42, 43, 44] (by decide +kernel) (by decide +kernel)
set_option maxRecDepth 20000 in
theorem gX2_findFault_X2_readOrder : GoodIn wsX2_findFault (wsV RX2 34 RX2 yX2_readOrder wsX2_readOrder) := goodIn_app (goodIn_of _ (by decide +kernel)) ggX2_findFault_X2_readOrder
set_option maxRecDepth 20000 in
theorem ggX2_findFault_X2_skip : GoodIn wsX2_findFault wsX2_skip := goodIn_r _ [37, 1, 15, 16, 17, 6, 18, 2, 19, 20, 21, 22, 23, 24, 25, 38, 39, 40, 41, 42, 43, 44] (by decide +kernel) (by decide +kernel)
set_option maxRecDepth 20000 in
theorem gX2_findFault_X2_skip : GoodIn wsX2_findFault (wsV RX2 38 RX2 yX2_skip wsX2_skip) := goodIn_app (goodIn_of _ (by decide +kernel)) ggX2_findFault_X2_skip
theorem dX2_findFault_0 : decode cX2_findFault 0 = .ok (.aload_n 0, 1) := by decide +kernel
theorem dX2_findFault_1 : decode cX2_findFault 1 = .ok (.invokevirtual 31, 3) := by decide +kernel
theorem dX2_findFault_4 : decode cX2_findFault 4 = .ok (.iconst 0, 1) := by decide +kernel
theorem dX2_findFault_5 : decode cX2_findFault 5 = .ok (.istore_n 1, 1) := by decide +kernel
theorem dX2_findFault_6 : decode cX2_findFault 6 = .ok (.iload_n 1, 1) := by decide +kernel
theorem dX2_findFault_7 : decode cX2_findFault 7 = .ok (.bipush 60, 2) := by decide +kernel
theorem dX2_findFault_9 : decode cX2_findFault 9 = .ok (.if_icmp .ge 44, 3) := by decide +kernel
theorem dX2_findFault_12 : decode cX2_findFault 12 = .ok (.aload_n 0, 1) := by decide +kernel
theorem dX2_findFault_13 : decode cX2_findFault 13 = .ok (.invokevirtual 34, 3) := by decide +kernel
theorem dX2_findFault_16 : decode cX2_findFault 16 = .ok (.ifCond .eq 37, 3) := by decide +kernel
theorem dX2_findFault_19 : decode cX2_findFault 19 = .ok (.aload_n 0, 1) := by decide +kernel
theorem dX2_findFault_20 : decode cX2_findFault 20 = .ok (.getfield 28, 3) := by decide +kernel
theorem dX2_findFault_23 : decode cX2_findFault 23 = .ok (.aload_n 0, 1) := by decide +kernel
theorem dX2_findFault_24 : decode cX2_findFault 24 = .ok (.getfield 20, 3) := by decide +kernel
theorem dX2_findFault_27 : decode cX2_findFault 27 = .ok (.if_icmp .lt 6, 3) := by decide +kernel
theorem dX2_findFault_30 : decode cX2_findFault 30 = .ok (.bipush (-6), 2) := by decide +kernel
theorem dX2_findFault_32 : decode cX2_findFault 32 = .ok (.ireturn, 1) := by decide +kernel
theorem dX2_findFault_33 : decode cX2_findFault 33 = .ok (.aload_n 0, 1) := by decide +kernel
theorem dX2_findFault_34 : decode cX2_findFault 34 = .ok (.bipush 59, 2) := by decide +kernel
theorem dX2_findFault_36 : decode cX2_findFault 36 = .ok (.invokevirtual 38, 3) := by decide +kernel
theorem dX2_findFault_39 : decode cX2_findFault 39 = .ok (.ifCond .ne 8, 3) := by decide +kernel
theorem dX2_findFault_42 : decode cX2_findFault 42 = .ok (.aload_n 0, 1) := by decide +kernel
theorem dX2_findFault_43 : decode cX2_findFault 43 = .ok (.getfield 28, 3) := by decide +kernel
theorem dX2_findFault_46 : decode cX2_findFault 46 = .ok (.ireturn, 1) := by decide +kernel
theorem dX2_findFault_47 : decode cX2_findFault 47 = .ok (.iinc 1 1, 3) := by decide +kernel
theorem dX2_findFault_50 : decode cX2_findFault 50 = .ok (.goto (-44), 3) := by decide +kernel
theorem dX2_findFault_53 : decode cX2_findFault 53 = .ok (.aload_n 0, 1) := by decide +kernel
theorem dX2_findFault_54 : decode cX2_findFault 54 = .ok (.getfield 28, 3) := by decide +kernel
theorem dX2_findFault_57 : decode cX2_findFault 57 = .ok (.ireturn, 1) := by decide +kernel
set_option maxRecDepth 20000 in
theorem ggX2_readOrder_X2_sign : GoodIn wsX2_readOrder wsX2_sign := goodIn_r _ [9, 2, 10, 11, 12, 13, 14, 15, 16, 17, 30, 31, 32, 33, 34, 35, 36] (by decide +kernel) (by decide +kernel)
set_option maxRecDepth 20000 in
theorem gX2_readOrder_X2_sign : GoodIn wsX2_readOrder (wsV RX2 42 RX2 yX2_sign wsX2_sign) := goodIn_app (goodIn_of _ (by decide +kernel)) ggX2_readOrder_X2_sign
set_option maxRecDepth 20000 in
theorem ggX2_readOrder_X2_readNumber : GoodIn wsX2_readOrder wsX2_readNumber := goodIn_r _ [21, 22, 23, 24, 25, 2, 5, 6, 7, 8, 9, 10, 11, 12, 13, 14, 15, 16, 17, 30, 31, 32, 33, 34, 35, 36] (by decide +kernel) (by decide +kernel)
set_option maxRecDepth 20000 in
theorem gX2_readOrder_X2_readNumber : GoodIn wsX2_readOrder (wsV RX2 49 RX2 yX2_readNumber wsX2_readNumber) := goodIn_app (goodIn_of _ (by decide +kernel)) ggX2_readOrder_X2_readNumber
set_option maxRecDepth 20000 in
theorem ggX2_readOrder_X2_skip : GoodIn wsX2_readOrder wsX2_skip := goodIn_r _ [29, 2, 5, 6, 7, 8, 9, 10, 11, 12, 13, 14, 15, 16, 17, 30, 31, 32, 33, 34, 35, 36] (by decide +kernel) (by decide +kernel)
set_option maxRecDepth 20000 in
theorem gX2_readOrder_X2_skip : GoodIn wsX2_readOrder (wsV RX2 38 RX2 yX2_skip wsX2_skip) := goodIn_app (goodIn_of _ (by decide +kernel)) ggX2_readOrder_X2_skip
theorem dX2_readOrder_0 : decode cX2_readOrder 0 = .ok (.aload_n 0, 1) := by decide +kernel
theorem dX2_readOrder_1 : decode cX2_readOrder 1 = .ok (.aload_n 0, 1) := by decide +kernel
theorem dX2_readOrder_2 : decode cX2_readOrder 2 = .ok (.invokevirtual 42, 3) := by decide +kernel
theorem dX2_readOrder_5 : decode cX2_readOrder 5 = .ok (.putfield 46, 3) := by decide +kernel
theorem dX2_readOrder_8 : decode cX2_readOrder 8 = .ok (.aload_n 0, 1) := by decide +kernel
theorem dX2_readOrder_9 : decode cX2_readOrder 9 = .ok (.getfield 46, 3) := by decide +kernel
theorem dX2_readOrder_12 : decode cX2_readOrder 12 = .ok (.tableswitch 211 99 112 #[72, 133, 211, 211, 211, 211, 166, 211, 211, 211, 211, 211, 166, 199], 72) := by decide +kernel
theorem dX2_readOrder_84 : decode cX2_readOrder 84 = .ok (.aload_n 0, 1) := by decide +kernel
theorem dX2_readOrder_85 : decode cX2_readOrder 85 = .ok (.dup, 1) := by decide +kernel
theorem dX2_readOrder_86 : decode cX2_readOrder 86 = .ok (.getfield 28, 3) := by decide +kernel
theorem dX2_readOrder_89 : decode cX2_readOrder 89 = .ok (.iconst 1, 1) := by decide +kernel
theorem dX2_readOrder_90 : decode cX2_readOrder 90 = .ok (.iadd, 1) := by decide +kernel
theorem dX2_readOrder_91 : decode cX2_readOrder 91 = .ok (.putfield 28, 3) := by decide +kernel
theorem dX2_readOrder_94 : decode cX2_readOrder 94 = .ok (.aload_n 0, 1) := by decide +kernel
theorem dX2_readOrder_95 : decode cX2_readOrder 95 = .ok (.aload_n 0, 1) := by decide +kernel
theorem dX2_readOrder_96 : decode cX2_readOrder 96 = .ok (.bipush 47, 2) := by decide +kernel
theorem dX2_readOrder_98 : decode cX2_readOrder 98 = .ok (.invokevirtual 49, 3) := by decide +kernel
theorem dX2_readOrder_101 : decode cX2_readOrder 101 = .ok (.putfield 53, 3) := by decide +kernel
theorem dX2_readOrder_104 : decode cX2_readOrder 104 = .ok (.aload_n 0, 1) := by decide +kernel
theorem dX2_readOrder_105 : decode cX2_readOrder 105 = .ok (.getfield 53, 3) := by decide +kernel
theorem dX2_readOrder_108 : decode cX2_readOrder 108 = .ok (.ifCond .lt 12, 3) := by decide +kernel
theorem dX2_readOrder_111 : decode cX2_readOrder 111 = .ok (.aload_n 0, 1) := by decide +kernel
theorem dX2_readOrder_112 : decode cX2_readOrder 112 = .ok (.bipush 45, 2) := by decide +kernel
theorem dX2_readOrder_114 : decode cX2_readOrder 114 = .ok (.invokevirtual 38, 3) := by decide +kernel
theorem dX2_readOrder_117 : decode cX2_readOrder 117 = .ok (.ifCond .ne 5, 3) := by decide +kernel
theorem dX2_readOrder_120 : decode cX2_readOrder 120 = .ok (.iconst 0, 1) := by decide +kernel
theorem dX2_readOrder_121 : decode cX2_readOrder 121 = .ok (.ireturn, 1) := by decide +kernel
theorem dX2_readOrder_122 : decode cX2_readOrder 122 = .ok (.aload_n 0, 1) := by decide +kernel
theorem dX2_readOrder_123 : decode cX2_readOrder 123 = .ok (.aload_n 0, 1) := by decide +kernel
theorem dX2_readOrder_124 : decode cX2_readOrder 124 = .ok (.bipush 47, 2) := by decide +kernel
theorem dX2_readOrder_126 : decode cX2_readOrder 126 = .ok (.invokevirtual 49, 3) := by decide +kernel
theorem dX2_readOrder_129 : decode cX2_readOrder 129 = .ok (.putfield 56, 3) := by decide +kernel
theorem dX2_readOrder_132 : decode cX2_readOrder 132 = .ok (.aload_n 0, 1) := by decide +kernel
theorem dX2_readOrder_133 : decode cX2_readOrder 133 = .ok (.getfield 56, 3) := by decide +kernel
theorem dX2_readOrder_136 : decode cX2_readOrder 136 = .ok (.ifCond .lt 7, 3) := by decide +kernel
theorem dX2_readOrder_139 : decode cX2_readOrder 139 = .ok (.iconst 1, 1) := by decide +kernel
theorem dX2_readOrder_140 : decode cX2_readOrder 140 = .ok (.goto 4, 3) := by decide +kernel
theorem dX2_readOrder_143 : decode cX2_readOrder 143 = .ok (.iconst 0, 1) := by decide +kernel
theorem dX2_readOrder_144 : decode cX2_readOrder 144 = .ok (.ireturn, 1) := by decide +kernel
theorem dX2_readOrder_145 : decode cX2_readOrder 145 = .ok (.aload_n 0, 1) := by decide +kernel
theorem dX2_readOrder_146 : decode cX2_readOrder 146 = .ok (.dup, 1) := by decide +kernel
theorem dX2_readOrder_147 : decode cX2_readOrder 147 = .ok (.getfield 28, 3) := by decide +kernel
theorem dX2_readOrder_150 : decode cX2_readOrder 150 = .ok (.iconst 1, 1) := by decide +kernel
theorem dX2_readOrder_151 : decode cX2_readOrder 151 = .ok (.iadd, 1) := by decide +kernel
theorem dX2_readOrder_152 : decode cX2_readOrder 152 = .ok (.putfield 28, 3) := by decide +kernel
theorem dX2_readOrder_155 : decode cX2_readOrder 155 = .ok (.aload_n 0, 1) := by decide +kernel
theorem dX2_readOrder_156 : decode cX2_readOrder 156 = .ok (.aload_n 0, 1) := by decide +kernel
theorem dX2_readOrder_157 : decode cX2_readOrder 157 = .ok (.bipush 47, 2) := by decide +kernel
theorem dX2_readOrder_159 : decode cX2_readOrder 159 = .ok (.invokevirtual 49, 3) := by decide +kernel
theorem dX2_readOrder_162 : decode cX2_readOrder 162 = .ok (.putfield 53, 3) := by decide +kernel
theorem dX2_readOrder_165 : decode cX2_readOrder 165 = .ok (.aload_n 0, 1) := by decide +kernel
theorem dX2_readOrder_166 : decode cX2_readOrder 166 = .ok (.getfield 53, 3) := by decide +kernel
theorem dX2_readOrder_169 : decode cX2_readOrder 169 = .ok (.ifCond .lt 7, 3) := by decide +kernel
theorem dX2_readOrder_172 : decode cX2_readOrder 172 = .ok (.iconst 1, 1) := by decide +kernel
theorem dX2_readOrder_173 : decode cX2_readOrder 173 = .ok (.goto 4, 3) := by decide +kernel
theorem dX2_readOrder_176 : decode cX2_readOrder 176 = .ok (.iconst 0, 1) := by decide +kernel
theorem dX2_readOrder_177 : decode cX2_readOrder 177 = .ok (.ireturn, 1) := by decide +kernel
theorem dX2_readOrder_178 : decode cX2_readOrder 178 = .ok (.aload_n 0, 1) := by decide +kernel
theorem dX2_readOrder_179 : decode cX2_readOrder 179 = .ok (.dup, 1) := by decide +kernel
theorem dX2_readOrder_180 : decode cX2_readOrder 180 = .ok (.getfield 28, 3) := by decide +kernel
theorem dX2_readOrder_183 : decode cX2_readOrder 183 = .ok (.iconst 1, 1) := by decide +kernel
theorem dX2_readOrder_184 : decode cX2_readOrder 184 = .ok (.iadd, 1) := by decide +kernel
theorem dX2_readOrder_185 : decode cX2_readOrder 185 = .ok (.putfield 28, 3) := by decide +kernel
theorem dX2_readOrder_188 : decode cX2_readOrder 188 = .ok (.aload_n 0, 1) := by decide +kernel
theorem dX2_readOrder_189 : decode cX2_readOrder 189 = .ok (.aload_n 0, 1) := by decide +kernel
theorem dX2_readOrder_190 : decode cX2_readOrder 190 = .ok (.bipush 7, 2) := by decide +kernel
theorem dX2_readOrder_192 : decode cX2_readOrder 192 = .ok (.invokevirtual 49, 3) := by decide +kernel
theorem dX2_readOrder_195 : decode cX2_readOrder 195 = .ok (.putfield 53, 3) := by decide +kernel
theorem dX2_readOrder_198 : decode cX2_readOrder 198 = .ok (.aload_n 0, 1) := by decide +kernel
theorem dX2_readOrder_199 : decode cX2_readOrder 199 = .ok (.getfield 53, 3) := by decide +kernel
theorem dX2_readOrder_202 : decode cX2_readOrder 202 = .ok (.ifCond .lt 7, 3) := by decide +kernel
theorem dX2_readOrder_205 : decode cX2_readOrder 205 = .ok (.iconst 1, 1) := by decide +kernel
theorem dX2_readOrder_206 : decode cX2_readOrder 206 = .ok (.goto 4, 3) := by decide +kernel
theorem dX2_readOrder_209 : decode cX2_readOrder 209 = .ok (.iconst 0, 1) := by decide +kernel
theorem dX2_readOrder_210 : decode cX2_readOrder 210 = .ok (.ireturn, 1) := by decide +kernel
theorem dX2_readOrder_211 : decode cX2_readOrder 211 = .ok (.aload_n 0, 1) := by decide +kernel
theorem dX2_readOrder_212 : decode cX2_readOrder 212 = .ok (.dup, 1) := by decide +kernel
theorem dX2_readOrder_213 : decode cX2_readOrder 213 = .ok (.getfield 28, 3) := by decide +kernel
theorem dX2_readOrder_216 : decode cX2_readOrder 216 = .ok (.iconst 1, 1) := by decide +kernel
theorem dX2_readOrder_217 : decode cX2_readOrder 217 = .ok (.iadd, 1) := by decide +kernel
theorem dX2_readOrder_218 : decode cX2_readOrder 218 = .ok (.putfield 28, 3) := by decide +kernel
theorem dX2_readOrder_221 : decode cX2_readOrder 221 = .ok (.iconst 1, 1) := by decide +kernel
theorem dX2_readOrder_222 : decode cX2_readOrder 222 = .ok (.ireturn, 1) := by decide +kernel
theorem dX2_readOrder_223 : decode cX2_readOrder 223 = .ok (.iconst 0, 1) := by decide +kernel
theorem dX2_readOrder_224 : decode cX2_readOrder 224 = .ok (.ireturn, 1) := by decide +kernel
set_option maxRecDepth 20000 in
theorem ggX2_skip_X2_sign : GoodIn wsX2_skip wsX2_sign := goodIn_r _ [6, 1, 7, 8, 9, 10, 11, 12, 13, 14, 15, 16, 17, 18, 19, 20, 21] (by decide +kernel) (by decide +kernel)
set_option maxRecDepth 20000 in
theorem gX2_skip_X2_sign : GoodIn wsX2_skip (wsV RX2 42 RX2 yX2_sign wsX2_sign) := goodIn_app (goodIn_of _ (by decide +kernel)) ggX2_skip_X2_sign
theorem dX2_skip_0 : decode cX2_skip 0 = .ok (.aload_n 0, 1) := by decide +kernel
theorem dX2_skip_1 : decode cX2_skip 1 = .ok (.invokevirtual 42, 3) := by decide +kernel
theorem dX2_skip_4 : decode cX2_skip 4 = .ok (.iload_n 1, 1) := by decide +kernel
theorem dX2_skip_5 : decode cX2_skip 5 = .ok (.if_icmp .eq 5, 3) := by decide +kernel
theorem dX2_skip_8 : decode cX2_skip 8 = .ok (.iconst 0, 1) := by decide +kernel
theorem dX2_skip_9 : decode cX2_skip 9 = .ok (.ireturn, 1) := by decide +kernel
theorem dX2_skip_10 : decode cX2_skip 10 = .ok (.aload_n 0, 1) := by decide +kernel
theorem dX2_skip_11 : decode cX2_skip 11 = .ok (.dup, 1) := by decide +kernel
theorem dX2_skip_12 : decode cX2_skip 12 = .ok (.getfield 28, 3) := by decide +kernel
theorem dX2_skip_15 : decode cX2_skip 15 = .ok (.iconst 1, 1) := by decide +kernel
theorem dX2_skip_16 : decode cX2_skip 16 = .ok (.iadd, 1) := by decide +kernel
theorem dX2_skip_17 : decode cX2_skip 17 = .ok (.putfield 28, 3) := by decide +kernel
theorem dX2_skip_20 : decode cX2_skip 20 = .ok (.iconst 1, 1) := by decide +kernel
theorem dX2_skip_21 : decode cX2_skip 21 = .ok (.ireturn, 1) := by decide +kernel
set_option maxRecDepth 20000 in
theorem ggX2_sign_X4_get : GoodIn wsX2_sign wsX4_get := goodIn_r _ [8, 9, 16] (by decide +kernel) (by decide +kernel)
set_option maxRecDepth 20000 in
theorem gX2_sign_X4_get : GoodIn wsX2_sign (wsV RX2 59 RX4 yX4_get wsX4_get) := goodIn_app (goodIn_of _ (by decide +kernel)) ggX2_sign_X4_get
theorem dX2_sign_0 : decode cX2_sign 0 = .ok (.aload_n 0, 1) := by decide +kernel
theorem dX2_sign_1 : decode cX2_sign 1 = .ok (.getfield 28, 3) := by decide +kernel
theorem dX2_sign_4 : decode cX2_sign 4 = .ok (.aload_n 0, 1) := by decide +kernel
theorem dX2_sign_5 : decode cX2_sign 5 = .ok (.getfield 20, 3) := by decide +kernel
theorem dX2_sign_8 : decode cX2_sign 8 = .ok (.if_icmp .ge 17, 3) := by decide +kernel
theorem dX2_sign_11 : decode cX2_sign 11 = .ok (.aload_n 0, 1) := by decide +kernel
theorem dX2_sign_12 : decode cX2_sign 12 = .ok (.getfield 14, 3) := by decide +kernel
theorem dX2_sign_15 : decode cX2_sign 15 = .ok (.aload_n 0, 1) := by decide +kernel
theorem dX2_sign_16 : decode cX2_sign 16 = .ok (.getfield 28, 3) := by decide +kernel
theorem dX2_sign_19 : decode cX2_sign 19 = .ok (.invokevirtual 59, 3) := by decide +kernel
theorem dX2_sign_22 : decode cX2_sign 22 = .ok (.goto 5, 3) := by decide +kernel
theorem dX2_sign_25 : decode cX2_sign 25 = .ok (.bipush (-6), 2) := by decide +kernel
theorem dX2_sign_27 : decode cX2_sign 27 = .ok (.ireturn, 1) := by decide +kernel
set_option maxRecDepth 20000 in
theorem ggX2_readNumber_X2_sign : GoodIn wsX2_readNumber wsX2_sign := goodIn_r _ [10, 5, 11, 12, 13, 14, 15, 16, 17, 18, 19, 20, 21, 22, 23, 24, 25] (by decide +kernel) (by decide +kernel)
set_option maxRecDepth 20000 in
theorem gX2_readNumber_X2_sign : GoodIn wsX2_readNumber (wsV RX2 42 RX2 yX2_sign wsX2_sign) := goodIn_app (goodIn_of _ (by decide +kernel)) ggX2_readNumber_X2_sign
theorem dX2_readNumber_0 : decode cX2_readNumber 0 = .ok (.bipush (-6), 2) := by decide +kernel
theorem dX2_readNumber_2 : decode cX2_readNumber 2 = .ok (.istore_n 2, 1) := by decide +kernel
theorem dX2_readNumber_3 : decode cX2_readNumber 3 = .ok (.iconst 0, 1) := by decide +kernel
theorem dX2_readNumber_4 : decode cX2_readNumber 4 = .ok (.istore_n 3, 1) := by decide +kernel
theorem dX2_readNumber_5 : decode cX2_readNumber 5 = .ok (.iload_n 3, 1) := by decide +kernel
theorem dX2_readNumber_6 : decode cX2_readNumber 6 = .ok (.bipush 60, 2) := by decide +kernel
theorem dX2_readNumber_8 : decode cX2_readNumber 8 = .ok (.if_icmp .ge 72, 3) := by decide +kernel
theorem dX2_readNumber_11 : decode cX2_readNumber 11 = .ok (.aload_n 0, 1) := by decide +kernel
theorem dX2_readNumber_12 : decode cX2_readNumber 12 = .ok (.invokevirtual 42, 3) := by decide +kernel
theorem dX2_readNumber_15 : decode cX2_readNumber 15 = .ok (.bipush 48, 2) := by decide +kernel
theorem dX2_readNumber_17 : decode cX2_readNumber 17 = .ok (.isub, 1) := by decide +kernel
theorem dX2_readNumber_18 : decode cX2_readNumber 18 = .ok (.istore 4, 2) := by decide +kernel
theorem dX2_readNumber_20 : decode cX2_readNumber 20 = .ok (.iload 4, 2) := by decide +kernel
theorem dX2_readNumber_22 : decode cX2_readNumber 22 = .ok (.ifCond .lt 58, 3) := by decide +kernel
theorem dX2_readNumber_25 : decode cX2_readNumber 25 = .ok (.iload 4, 2) := by decide +kernel
theorem dX2_readNumber_27 : decode cX2_readNumber 27 = .ok (.bipush 9, 2) := by decide +kernel
theorem dX2_readNumber_29 : decode cX2_readNumber 29 = .ok (.if_icmp .gt 51, 3) := by decide +kernel
theorem dX2_readNumber_32 : decode cX2_readNumber 32 = .ok (.iload_n 2, 1) := by decide +kernel
theorem dX2_readNumber_33 : decode cX2_readNumber 33 = .ok (.ifCond .ne 6, 3) := by decide +kernel
theorem dX2_readNumber_36 : decode cX2_readNumber 36 = .ok (.goto 44, 3) := by decide +kernel
theorem dX2_readNumber_39 : decode cX2_readNumber 39 = .ok (.iload_n 2, 1) := by decide +kernel
theorem dX2_readNumber_40 : decode cX2_readNumber 40 = .ok (.iconst 0, 1) := by decide +kernel
theorem dX2_readNumber_41 : decode cX2_readNumber 41 = .ok (.invokestatic 62, 3) := by decide +kernel
theorem dX2_readNumber_44 : decode cX2_readNumber 44 = .ok (.bipush 10, 2) := by decide +kernel
theorem dX2_readNumber_46 : decode cX2_readNumber 46 = .ok (.imul, 1) := by decide +kernel
theorem dX2_readNumber_47 : decode cX2_readNumber 47 = .ok (.iload 4, 2) := by decide +kernel
theorem dX2_readNumber_49 : decode cX2_readNumber 49 = .ok (.iadd, 1) := by decide +kernel
theorem dX2_readNumber_50 : decode cX2_readNumber 50 = .ok (.istore 5, 2) := by decide +kernel
theorem dX2_readNumber_52 : decode cX2_readNumber 52 = .ok (.iload 5, 2) := by decide +kernel
theorem dX2_readNumber_54 : decode cX2_readNumber 54 = .ok (.iload_n 1, 1) := by decide +kernel
theorem dX2_readNumber_55 : decode cX2_readNumber 55 = .ok (.if_icmp .le 6, 3) := by decide +kernel
theorem dX2_readNumber_58 : decode cX2_readNumber 58 = .ok (.goto 22, 3) := by decide +kernel
theorem dX2_readNumber_61 : decode cX2_readNumber 61 = .ok (.iload 5, 2) := by decide +kernel
theorem dX2_readNumber_63 : decode cX2_readNumber 63 = .ok (.istore_n 2, 1) := by decide +kernel
theorem dX2_readNumber_64 : decode cX2_readNumber 64 = .ok (.aload_n 0, 1) := by decide +kernel
theorem dX2_readNumber_65 : decode cX2_readNumber 65 = .ok (.dup, 1) := by decide +kernel
theorem dX2_readNumber_66 : decode cX2_readNumber 66 = .ok (.getfield 28, 3) := by decide +kernel
theorem dX2_readNumber_69 : decode cX2_readNumber 69 = .ok (.iconst 1, 1) := by decide +kernel
theorem dX2_readNumber_70 : decode cX2_readNumber 70 = .ok (.iadd, 1) := by decide +kernel
theorem dX2_readNumber_71 : decode cX2_readNumber 71 = .ok (.putfield 28, 3) := by decide +kernel
theorem dX2_readNumber_74 : decode cX2_readNumber 74 = .ok (.iinc 3 1, 3) := by decide +kernel
theorem dX2_readNumber_77 : decode cX2_readNumber 77 = .ok (.goto (-72), 3) := by decide +kernel
theorem dX2_readNumber_80 : decode cX2_readNumber 80 = .ok (.iload_n 2, 1) := by decide +kernel
theorem dX2_readNumber_81 : decode cX2_readNumber 81 = .ok (.ireturn, 1) := by decide +kernel
