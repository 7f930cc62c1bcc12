theorem dX6_packs_8 : decode cX6_packs 8 = .ok (.bipush (-6), 2) := by decide +kernel
theorem dX6_packs_10 : decode cX6_packs 10 = .ok (.ireturn, 1) := by decide +kernel
theorem dX6_packs_11 : decode cX6_packs 11 = .ok (.aload_n 0, 1) := by decide +kernel
theorem dX6_packs_12 : decode cX6_packs 12 = .ok (.getfield 7, 3) := by decide +kernel
theorem dX6_packs_15 : decode cX6_packs 15 = .ok (.iload_n 1, 1) := by decide +kernel
theorem dX6_packs_16 : decode cX6_packs 16 = .ok (.bipush 9, 2) := by decide +kernel
theorem dX6_packs_18 : decode cX6_packs 18 = .ok (.iadd, 1) := by decide +kernel
theorem dX6_packs_19 : decode cX6_packs 19 = .ok (.iaload, 1) := by decide +kernel
theorem dX6_packs_20 : decode cX6_packs 20 = .ok (.istore_n 2, 1) := by decide +kernel
theorem dX6_packs_21 : decode cX6_packs 21 = .ok (.aload_n 0, 1) := by decide +kernel
theorem dX6_packs_22 : decode cX6_packs 22 = .ok (.getfield 7, 3) := by decide +kernel
theorem dX6_packs_25 : decode cX6_packs 25 = .ok (.iload_n 1, 1) := by decide +kernel
theorem dX6_packs_26 : decode cX6_packs 26 = .ok (.bipush 8, 2) := by decide +kernel
theorem dX6_packs_28 : decode cX6_packs 28 = .ok (.iadd, 1) := by decide +kernel
theorem dX6_packs_29 : decode cX6_packs 29 = .ok (.iaload, 1) := by decide +kernel
theorem dX6_packs_30 : decode cX6_packs 30 = .ok (.istore_n 3, 1) := by decide +kernel
theorem dX6_packs_31 : decode cX6_packs 31 = .ok (.aload_n 0, 1) := by decide +kernel
theorem dX6_packs_32 : decode cX6_packs 32 = .ok (.iload_n 1, 1) := by decide +kernel
theorem dX6_packs_33 : decode cX6_packs 33 = .ok (.invokevirtual 99, 3) := by decide +kernel
theorem dX6_packs_36 : decode cX6_packs 36 = .ok (.istore 4, 2) := by decide +kernel
theorem dX6_packs_38 : decode cX6_packs 38 = .ok (.aload_n 0, 1) := by decide +kernel
theorem dX6_packs_39 : decode cX6_packs 39 = .ok (.getfield 7, 3) := by decide +kernel
theorem dX6_packs_42 : decode cX6_packs 42 = .ok (.iload_n 1, 1) := by decide +kernel
theorem dX6_packs_43 : decode cX6_packs 43 = .ok (.bipush 9, 2) := by decide +kernel
theorem dX6_packs_45 : decode cX6_packs 45 = .ok (.iadd, 1) := by decide +kernel
theorem dX6_packs_46 : decode cX6_packs 46 = .ok (.iconst 0, 1) := by decide +kernel
theorem dX6_packs_47 : decode cX6_packs 47 = .ok (.iastore, 1) := by decide +kernel
theorem dX6_packs_48 : decode cX6_packs 48 = .ok (.iconst 0, 1) := by decide +kernel
theorem dX6_packs_49 : decode cX6_packs 49 = .ok (.istore 5, 2) := by decide +kernel
theorem dX6_packs_51 : decode cX6_packs 51 = .ok (.iload 5, 2) := by decide +kernel
theorem dX6_packs_53 : decode cX6_packs 53 = .ok (.bipush 8, 2) := by decide +kernel
theorem dX6_packs_55 : decode cX6_packs 55 = .ok (.if_icmp .ge 55, 3) := by decide +kernel
theorem dX6_packs_58 : decode cX6_packs 58 = .ok (.aload_n 0, 1) := by decide +kernel
theorem dX6_packs_59 : decode cX6_packs 59 = .ok (.getfield 7, 3) := by decide +kernel
theorem dX6_packs_62 : decode cX6_packs 62 = .ok (.iload_n 1, 1) := by decide +kernel
theorem dX6_packs_63 : decode cX6_packs 63 = .ok (.bipush 9, 2) := by decide +kernel
theorem dX6_packs_65 : decode cX6_packs 65 = .ok (.iadd, 1) := by decide +kernel
theorem dX6_packs_66 : decode cX6_packs 66 = .ok (.dup2, 1) := by decide +kernel
theorem dX6_packs_67 : decode cX6_packs 67 = .ok (.iaload, 1) := by decide +kernel
theorem dX6_packs_68 : decode cX6_packs 68 = .ok (.iload_n 2, 1) := by decide +kernel
theorem dX6_packs_69 : decode cX6_packs 69 = .ok (.iload 5, 2) := by decide +kernel
theorem dX6_packs_71 : decode cX6_packs 71 = .ok (.invokestatic 26, 3) := by decide +kernel
theorem dX6_packs_74 : decode cX6_packs 74 = .ok (.ifCond .eq 27, 3) := by decide +kernel
theorem dX6_packs_77 : decode cX6_packs 77 = .ok (.aload_n 0, 1) := by decide +kernel
theorem dX6_packs_78 : decode cX6_packs 78 = .ok (.getfield 7, 3) := by decide +kernel
theorem dX6_packs_81 : decode cX6_packs 81 = .ok (.iload_n 1, 1) := by decide +kernel
theorem dX6_packs_82 : decode cX6_packs 82 = .ok (.bipush 9, 2) := by decide +kernel
theorem dX6_packs_84 : decode cX6_packs 84 = .ok (.iadd, 1) := by decide +kernel
theorem dX6_packs_85 : decode cX6_packs 85 = .ok (.iaload, 1) := by decide +kernel
theorem dX6_packs_86 : decode cX6_packs 86 = .ok (.invokestatic 93, 3) := by decide +kernel
theorem dX6_packs_89 : decode cX6_packs 89 = .ok (.iload 4, 2) := by decide +kernel
theorem dX6_packs_91 : decode cX6_packs 91 = .ok (.if_icmp .ge 10, 3) := by decide +kernel
theorem dX6_packs_94 : decode cX6_packs 94 = .ok (.iconst 1, 1) := by decide +kernel
theorem dX6_packs_95 : decode cX6_packs 95 = .ok (.iload 5, 2) := by decide +kernel
theorem dX6_packs_97 : decode cX6_packs 97 = .ok (.ishl, 1) := by decide +kernel
theorem dX6_packs_98 : decode cX6_packs 98 = .ok (.goto 4, 3) := by decide +kernel
theorem dX6_packs_101 : decode cX6_packs 101 = .ok (.iconst 0, 1) := by decide +kernel
theorem dX6_packs_102 : decode cX6_packs 102 = .ok (.ior, 1) := by decide +kernel
theorem dX6_packs_103 : decode cX6_packs 103 = .ok (.iastore, 1) := by decide +kernel
theorem dX6_packs_104 : decode cX6_packs 104 = .ok (.iinc 5 1, 3) := by decide +kernel
theorem dX6_packs_107 : decode cX6_packs 107 = .ok (.goto (-56), 3) := by decide +kernel
theorem dX6_packs_110 : decode cX6_packs 110 = .ok (.iconst 0, 1) := by decide +kernel
theorem dX6_packs_111 : decode cX6_packs 111 = .ok (.istore 5, 2) := by decide +kernel
theorem dX6_packs_113 : decode cX6_packs 113 = .ok (.iload 5, 2) := by decide +kernel
theorem dX6_packs_115 : decode cX6_packs 115 = .ok (.aload_n 0, 1) := by decide +kernel
theorem dX6_packs_116 : decode cX6_packs 116 = .ok (.iload_n 1, 1) := by decide +kernel
theorem dX6_packs_117 : decode cX6_packs 117 = .ok (.invokevirtual 30, 3) := by decide +kernel
theorem dX6_packs_120 : decode cX6_packs 120 = .ok (.if_icmp .ge 33, 3) := by decide +kernel
theorem dX6_packs_123 : decode cX6_packs 123 = .ok (.aload_n 0, 1) := by decide +kernel
theorem dX6_packs_124 : decode cX6_packs 124 = .ok (.getfield 19, 3) := by decide +kernel
theorem dX6_packs_127 : decode cX6_packs 127 = .ok (.iload 5, 2) := by decide +kernel
theorem dX6_packs_129 : decode cX6_packs 129 = .ok (.aload_n 0, 1) := by decide +kernel
theorem dX6_packs_130 : decode cX6_packs 130 = .ok (.iload_n 1, 1) := by decide +kernel
theorem dX6_packs_131 : decode cX6_packs 131 = .ok (.iload 5, 2) := by decide +kernel
theorem dX6_packs_133 : decode cX6_packs 133 = .ok (.iconst 2, 1) := by decide +kernel
theorem dX6_packs_134 : decode cX6_packs 134 = .ok (.invokevirtual 41, 3) := by decide +kernel
theorem dX6_packs_137 : decode cX6_packs 137 = .ok (.iastore, 1) := by decide +kernel
theorem dX6_packs_138 : decode cX6_packs 138 = .ok (.aload_n 0, 1) := by decide +kernel
theorem dX6_packs_139 : decode cX6_packs 139 = .ok (.iload_n 1, 1) := by decide +kernel
theorem dX6_packs_140 : decode cX6_packs 140 = .ok (.iload 5, 2) := by decide +kernel
theorem dX6_packs_142 : decode cX6_packs 142 = .ok (.iconst 2, 1) := by decide +kernel
theorem dX6_packs_143 : decode cX6_packs 143 = .ok (.iconst (-1), 1) := by decide +kernel
theorem dX6_packs_144 : decode cX6_packs 144 = .ok (.invokevirtual 38, 3) := by decide +kernel
theorem dX6_packs_147 : decode cX6_packs 147 = .ok (.iinc 5 1, 3) := by decide +kernel
theorem dX6_packs_150 : decode cX6_packs 150 = .ok (.goto (-37), 3) := by decide +kernel
theorem dX6_packs_153 : decode cX6_packs 153 = .ok (.aload_n 0, 1) := by decide +kernel
theorem dX6_packs_154 : decode cX6_packs 154 = .ok (.iload_n 1, 1) := by decide +kernel
theorem dX6_packs_155 : decode cX6_packs 155 = .ok (.invokevirtual 90, 3) := by decide +kernel
theorem dX6_packs_158 : decode cX6_packs 158 = .ok (.istore 5, 2) := by decide +kernel
theorem dX6_packs_160 : decode cX6_packs 160 = .ok (.iload 5, 2) := by decide +kernel
theorem dX6_packs_162 : decode cX6_packs 162 = .ok (.iconst (-1), 1) := by decide +kernel
theorem dX6_packs_163 : decode cX6_packs 163 = .ok (.if_icmp .eq 25, 3) := by decide +kernel
theorem dX6_packs_166 : decode cX6_packs 166 = .ok (.aload_n 0, 1) := by decide +kernel
theorem dX6_packs_167 : decode cX6_packs 167 = .ok (.iload_n 1, 1) := by decide +kernel
theorem dX6_packs_168 : decode cX6_packs 168 = .ok (.iload 5, 2) := by decide +kernel
theorem dX6_packs_170 : decode cX6_packs 170 = .ok (.invokevirtual 84, 3) := by decide +kernel
theorem dX6_packs_173 : decode cX6_packs 173 = .ok (.bipush (-4), 2) := by decide +kernel
theorem dX6_packs_175 : decode cX6_packs 175 = .ok (.if_icmp .eq 13, 3) := by decide +kernel
theorem dX6_packs_178 : decode cX6_packs 178 = .ok (.aload_n 0, 1) := by decide +kernel
theorem dX6_packs_179 : decode cX6_packs 179 = .ok (.iload_n 1, 1) := by decide +kernel
theorem dX6_packs_180 : decode cX6_packs 180 = .ok (.invokevirtual 90, 3) := by decide +kernel
theorem dX6_packs_183 : decode cX6_packs 183 = .ok (.istore 5, 2) := by decide +kernel
theorem dX6_packs_185 : decode cX6_packs 185 = .ok (.goto (-25), 3) := by decide +kernel
theorem dX6_packs_188 : decode cX6_packs 188 = .ok (.iconst 0, 1) := by decide +kernel
theorem dX6_packs_189 : decode cX6_packs 189 = .ok (.istore 6, 2) := by decide +kernel
theorem dX6_packs_191 : decode cX6_packs 191 = .ok (.iconst 0, 1) := by decide +kernel
theorem dX6_packs_192 : decode cX6_packs 192 = .ok (.istore 7, 2) := by decide +kernel
theorem dX6_packs_194 : decode cX6_packs 194 = .ok (.iload 7, 2) := by decide +kernel
theorem dX6_packs_196 : decode cX6_packs 196 = .ok (.aload_n 0, 1) := by decide +kernel
theorem dX6_packs_197 : decode cX6_packs 197 = .ok (.iload_n 1, 1) := by decide +kernel
theorem dX6_packs_198 : decode cX6_packs 198 = .ok (.invokevirtual 30, 3) := by decide +kernel
theorem dX6_packs_201 : decode cX6_packs 201 = .ok (.if_icmp .ge 49, 3) := by decide +kernel
theorem dX6_packs_204 : decode cX6_packs 204 = .ok (.iload 6, 2) := by decide +kernel
theorem dX6_packs_206 : decode cX6_packs 206 = .ok (.aload_n 0, 1) := by decide +kernel
theorem dX6_packs_207 : decode cX6_packs 207 = .ok (.iload_n 1, 1) := by decide +kernel
theorem dX6_packs_208 : decode cX6_packs 208 = .ok (.iload 7, 2) := by decide +kernel
theorem dX6_packs_210 : decode cX6_packs 210 = .ok (.iconst 0, 1) := by decide +kernel
theorem dX6_packs_211 : decode cX6_packs 211 = .ok (.invokevirtual 41, 3) := by decide +kernel
theorem dX6_packs_214 : decode cX6_packs 214 = .ok (.iconst (-1), 1) := by decide +kernel
theorem dX6_packs_215 : decode cX6_packs 215 = .ok (.if_icmp .eq 25, 3) := by decide +kernel
theorem dX6_packs_218 : decode cX6_packs 218 = .ok (.aload_n 0, 1) := by decide +kernel
theorem dX6_packs_219 : decode cX6_packs 219 = .ok (.iload_n 1, 1) := by decide +kernel
theorem dX6_packs_220 : decode cX6_packs 220 = .ok (.iload 7, 2) := by decide +kernel
theorem dX6_packs_222 : decode cX6_packs 222 = .ok (.iconst 2, 1) := by decide +kernel
theorem dX6_packs_223 : decode cX6_packs 223 = .ok (.invokevirtual 41, 3) := by decide +kernel
theorem dX6_packs_226 : decode cX6_packs 226 = .ok (.aload_n 0, 1) := by decide +kernel
theorem dX6_packs_227 : decode cX6_packs 227 = .ok (.getfield 19, 3) := by decide +kernel
theorem dX6_packs_230 : decode cX6_packs 230 = .ok (.iload 7, 2) := by decide +kernel
theorem dX6_packs_232 : decode cX6_packs 232 = .ok (.iaload, 1) := by decide +kernel
theorem dX6_packs_233 : decode cX6_packs 233 = .ok (.if_icmp .eq 7, 3) := by decide +kernel
theorem dX6_packs_236 : decode cX6_packs 236 = .ok (.iconst 1, 1) := by decide +kernel
theorem dX6_packs_237 : decode cX6_packs 237 = .ok (.goto 4, 3) := by decide +kernel
theorem dX6_packs_240 : decode cX6_packs 240 = .ok (.iconst 0, 1) := by decide +kernel
theorem dX6_packs_241 : decode cX6_packs 241 = .ok (.iadd, 1) := by decide +kernel
theorem dX6_packs_242 : decode cX6_packs 242 = .ok (.istore 6, 2) := by decide +kernel
theorem dX6_packs_244 : decode cX6_packs 244 = .ok (.iinc 7 1, 3) := by decide +kernel
theorem dX6_packs_247 : decode cX6_packs 247 = .ok (.goto (-53), 3) := by decide +kernel
theorem dX6_packs_250 : decode cX6_packs 250 = .ok (.aload_n 0, 1) := by decide +kernel
theorem dX6_packs_251 : decode cX6_packs 251 = .ok (.getfield 7, 3) := by decide +kernel
theorem dX6_packs_254 : decode cX6_packs 254 = .ok (.iload_n 1, 1) := by decide +kernel
theorem dX6_packs_255 : decode cX6_packs 255 = .ok (.bipush 9, 2) := by decide +kernel
theorem dX6_packs_257 : decode cX6_packs 257 = .ok (.iadd, 1) := by decide +kernel
theorem dX6_packs_258 : decode cX6_packs 258 = .ok (.iload_n 2, 1) := by decide +kernel
theorem dX6_packs_259 : decode cX6_packs 259 = .ok (.iastore, 1) := by decide +kernel
theorem dX6_packs_260 : decode cX6_packs 260 = .ok (.aload_n 0, 1) := by decide +kernel
theorem dX6_packs_261 : decode cX6_packs 261 = .ok (.getfield 7, 3) := by decide +kernel
theorem dX6_packs_264 : decode cX6_packs 264 = .ok (.iload_n 1, 1) := by decide +kernel
theorem dX6_packs_265 : decode cX6_packs 265 = .ok (.bipush 8, 2) := by decide +kernel
theorem dX6_packs_267 : decode cX6_packs 267 = .ok (.iadd, 1) := by decide +kernel
theorem dX6_packs_268 : decode cX6_packs 268 = .ok (.iload_n 3, 1) := by decide +kernel
theorem dX6_packs_269 : decode cX6_packs 269 = .ok (.iload 6, 2) := by decide +kernel
theorem dX6_packs_271 : decode cX6_packs 271 = .ok (.iadd, 1) := by decide +kernel
theorem dX6_packs_272 : decode cX6_packs 272 = .ok (.iastore, 1) := by decide +kernel
theorem dX6_packs_273 : decode cX6_packs 273 = .ok (.iload 6, 2) := by decide +kernel
theorem dX6_packs_275 : decode cX6_packs 275 = .ok (.ireturn, 1) := by decide +kernel
theorem dX6_copies_0 : decode cX6_copies 0 = .ok (.iconst 0, 1) := by decide +kernel
theorem dX6_copies_1 : decode cX6_copies 1 = .ok (.istore_n 3, 1) := by decide +kernel
theorem dX6_copies_2 : decode cX6_copies 2 = .ok (.iload_n 3, 1) := by decide +kernel
theorem dX6_copies_3 : decode cX6_copies 3 = .ok (.sipush 154, 3) := by decide +kernel
theorem dX6_copies_6 : decode cX6_copies 6 = .ok (.if_icmp .ge 33, 3) := by decide +kernel
theorem dX6_copies_9 : decode cX6_copies 9 = .ok (.aload_n 0, 1) := by decide +kernel
theorem dX6_copies_10 : decode cX6_copies 10 = .ok (.getfield 7, 3) := by decide +kernel
theorem dX6_copies_13 : decode cX6_copies 13 = .ok (.sipush 154, 3) := by decide +kernel
theorem dX6_copies_16 : decode cX6_copies 16 = .ok (.iload_n 2, 1) := by decide +kernel
theorem dX6_copies_17 : decode cX6_copies 17 = .ok (.imul, 1) := by decide +kernel
theorem dX6_copies_18 : decode cX6_copies 18 = .ok (.iload_n 3, 1) := by decide +kernel
theorem dX6_copies_19 : decode cX6_copies 19 = .ok (.iadd, 1) := by decide +kernel
theorem dX6_copies_20 : decode cX6_copies 20 = .ok (.aload_n 0, 1) := by decide +kernel
theorem dX6_copies_21 : decode cX6_copies 21 = .ok (.getfield 7, 3) := by decide +kernel
theorem dX6_copies_24 : decode cX6_copies 24 = .ok (.sipush 154, 3) := by decide +kernel
theorem dX6_copies_27 : decode cX6_copies 27 = .ok (.iload_n 1, 1) := by decide +kernel
theorem dX6_copies_28 : decode cX6_copies 28 = .ok (.imul, 1) := by decide +kernel
theorem dX6_copies_29 : decode cX6_copies 29 = .ok (.iload_n 3, 1) := by decide +kernel
theorem dX6_copies_30 : decode cX6_copies 30 = .ok (.iadd, 1) := by decide +kernel
theorem dX6_copies_31 : decode cX6_copies 31 = .ok (.iaload, 1) := by decide +kernel
theorem dX6_copies_32 : decode cX6_copies 32 = .ok (.iastore, 1) := by decide +kernel
theorem dX6_copies_33 : decode cX6_copies 33 = .ok (.iinc 3 1, 3) := by decide +kernel
theorem dX6_copies_36 : decode cX6_copies 36 = .ok (.goto (-34), 3) := by decide +kernel
theorem dX6_copies_39 : decode cX6_copies 39 = .ok (.return_, 1) := by decide +kernel
set_option maxRecDepth 20000 in
theorem ggX6_accepts_X6_copies : GoodIn wsX6_accepts wsX6_copies := goodIn_r _ [6, 7, 8, 9, 10, 11, 12, 13, 14, 15, 16, 17, 18, 19] (by decide +kernel) (by decide +kernel)
set_option maxRecDepth 20000 in
theorem gX6_accepts_X6_copies : GoodIn wsX6_accepts (wsV RX6 105 RX6 yX6_copies wsX6_copies) := goodIn_app (goodIn_of _ (by decide +kernel)) ggX6_accepts_X6_copies
theorem dX6_accepts_0 : decode cX6_accepts 0 = .ok (.iload_n 1, 1) := by decide +kernel
theorem dX6_accepts_1 : decode cX6_accepts 1 = .ok (.ifCond .ge 5, 3) := by decide +kernel
theorem dX6_accepts_4 : decode cX6_accepts 4 = .ok (.iload_n 1, 1) := by decide +kernel
theorem dX6_accepts_5 : decode cX6_accepts 5 = .ok (.ireturn, 1) := by decide +kernel
theorem dX6_accepts_6 : decode cX6_accepts 6 = .ok (.iconst 1, 1) := by decide +kernel
theorem dX6_accepts_7 : decode cX6_accepts 7 = .ok (.istore_n 2, 1) := by decide +kernel
theorem dX6_accepts_8 : decode cX6_accepts 8 = .ok (.iload_n 2, 1) := by decide +kernel
theorem dX6_accepts_9 : decode cX6_accepts 9 = .ok (.iconst 4, 1) := by decide +kernel
theorem dX6_accepts_10 : decode cX6_accepts 10 = .ok (.if_icmp .ge 25, 3) := by decide +kernel
theorem dX6_accepts_13 : decode cX6_accepts 13 = .ok (.aload_n 0, 1) := by decide +kernel
theorem dX6_accepts_14 : decode cX6_accepts 14 = .ok (.getfield 102, 3) := by decide +kernel
theorem dX6_accepts_17 : decode cX6_accepts 17 = .ok (.iconst 4, 1) := by decide +kernel
theorem dX6_accepts_18 : decode cX6_accepts 18 = .ok (.if_icmp .ne 17, 3) := by decide +kernel
theorem dX6_accepts_21 : decode cX6_accepts 21 = .ok (.aload_n 0, 1) := by decide +kernel
theorem dX6_accepts_22 : decode cX6_accepts 22 = .ok (.iload_n 2, 1) := by decide +kernel
theorem dX6_accepts_23 : decode cX6_accepts 23 = .ok (.iconst 1, 1) := by decide +kernel
theorem dX6_accepts_24 : decode cX6_accepts 24 = .ok (.iadd, 1) := by decide +kernel
theorem dX6_accepts_25 : decode cX6_accepts 25 = .ok (.iload_n 2, 1) := by decide +kernel
theorem dX6_accepts_26 : decode cX6_accepts 26 = .ok (.invokevirtual 105, 3) := by decide +kernel
theorem dX6_accepts_29 : decode cX6_accepts 29 = .ok (.iinc 2 1, 3) := by decide +kernel
theorem dX6_accepts_32 : decode cX6_accepts 32 = .ok (.goto (-24), 3) := by decide +kernel
theorem dX6_accepts_35 : decode cX6_accepts 35 = .ok (.aload_n 0, 1) := by decide +kernel
theorem dX6_accepts_36 : decode cX6_accepts 36 = .ok (.dup, 1) := by decide +kernel
theorem dX6_accepts_37 : decode cX6_accepts 37 = .ok (.getfield 102, 3) := by decide +kernel
theorem dX6_accepts_40 : decode cX6_accepts 40 = .ok (.aload_n 0, 1) := by decide +kernel
theorem dX6_accepts_41 : decode cX6_accepts 41 = .ok (.getfield 102, 3) := by decide +kernel
theorem dX6_accepts_44 : decode cX6_accepts 44 = .ok (.iconst 4, 1) := by decide +kernel
theorem dX6_accepts_45 : decode cX6_accepts 45 = .ok (.if_icmp .ge 7, 3) := by decide +kernel
theorem dX6_accepts_48 : decode cX6_accepts 48 = .ok (.iconst 1, 1) := by decide +kernel
theorem dX6_accepts_49 : decode cX6_accepts 49 = .ok (.goto 4, 3) := by decide +kernel
theorem dX6_accepts_52 : decode cX6_accepts 52 = .ok (.iconst 0, 1) := by decide +kernel
theorem dX6_accepts_53 : decode cX6_accepts 53 = .ok (.iadd, 1) := by decide +kernel
theorem dX6_accepts_54 : decode cX6_accepts 54 = .ok (.putfield 102, 3) := by decide +kernel
theorem dX6_accepts_57 : decode cX6_accepts 57 = .ok (.aload_n 0, 1) := by decide +kernel
theorem dX6_accepts_58 : decode cX6_accepts 58 = .ok (.iconst 0, 1) := by decide +kernel
theorem dX6_accepts_59 : decode cX6_accepts 59 = .ok (.aload_n 0, 1) := by decide +kernel
theorem dX6_accepts_60 : decode cX6_accepts 60 = .ok (.getfield 102, 3) := by decide +kernel
theorem dX6_accepts_63 : decode cX6_accepts 63 = .ok (.invokevirtual 105, 3) := by decide +kernel
theorem dX6_accepts_66 : decode cX6_accepts 66 = .ok (.aload_n 0, 1) := by decide +kernel
theorem dX6_accepts_67 : decode cX6_accepts 67 = .ok (.bipush 6, 2) := by decide +kernel
theorem dX6_accepts_69 : decode cX6_accepts 69 = .ok (.iconst 0, 1) := by decide +kernel
theorem dX6_accepts_70 : decode cX6_accepts 70 = .ok (.invokevirtual 105, 3) := by decide +kernel
theorem dX6_accepts_73 : decode cX6_accepts 73 = .ok (.iload_n 1, 1) := by decide +kernel
theorem dX6_accepts_74 : decode cX6_accepts 74 = .ok (.ireturn, 1) := by decide +kernel
set_option maxRecDepth 20000 in
theorem ggX6_setUp_X6_in : GoodIn wsX6_setUp wsX6_in := goodIn_r _ [5] (by decide +kernel) (by decide +kernel)
set_option maxRecDepth 20000 in
theorem gX6_setUp_X6_in : GoodIn wsX6_setUp (va_wsS RX6 34 yX6_in wsX6_in) := goodIn_app (goodIn_of _ (by decide +kernel)) ggX6_setUp_X6_in
set_option maxRecDepth 20000 in
theorem ggX6_setUp_X6_copies : GoodIn wsX6_setUp wsX6_copies := goodIn_r _ [9, 1, 35, 36, 37, 38, 39, 40, 41, 42, 43, 44, 45, 46] (by decide +kernel) (by decide +kernel)
set_option maxRecDepth 20000 in
theorem gX6_setUp_X6_copies : GoodIn wsX6_setUp (wsV RX6 105 RX6 yX6_copies wsX6_copies) := goodIn_app (goodIn_of _ (by decide +kernel)) ggX6_setUp_X6_copies
set_option maxRecDepth 20000 in
theorem ggX6_setUp_X6_calls : GoodIn wsX6_setUp wsX6_calls := goodIn_r _ [13, 14, 15, 16, 4, 17, 1, 18, 19, 20, 21, 35, 36, 37, 38, 39, 40, 41, 42, 43, 44, 45, 46] (by decide +kernel) (by decide +kernel)
set_option maxRecDepth 20000 in
theorem gX6_setUp_X6_calls : GoodIn wsX6_setUp (wsV RX6 96 RX6 yX6_calls wsX6_calls) := goodIn_app (goodIn_of _ (by decide +kernel)) ggX6_setUp_X6_calls
set_option maxRecDepth 20000 in
theorem ggX6_setUp_X6_builds : GoodIn wsX6_setUp wsX6_builds := goodIn_r _ [25, 1, 26, 27, 28, 4, 29, 35, 36, 37, 38, 39, 40, 41, 42, 43, 44, 45, 46] (by decide +kernel) (by decide +kernel)
set_option maxRecDepth 20000 in
theorem gX6_setUp_X6_builds : GoodIn wsX6_setUp (wsV RX6 22 RX6 yX6_builds wsX6_builds) := goodIn_app (goodIn_of _ (by decide +kernel)) ggX6_setUp_X6_builds
set_option maxRecDepth 20000 in
theorem ggX6_setUp_X6_accepts : GoodIn wsX6_setUp wsX6_accepts := goodIn_r _ [33, 34, 6, 7, 8, 4, 9, 1, 35, 36, 37, 38, 39, 40, 41, 42, 43, 44, 45, 46] (by decide +kernel) (by decide +kernel)
set_option maxRecDepth 20000 in
theorem gX6_setUp_X6_accepts : GoodIn wsX6_setUp (wsV RX6 109 RX6 yX6_accepts wsX6_accepts) := goodIn_app (goodIn_of _ (by decide +kernel)) ggX6_setUp_X6_accepts
theorem dX6_setUp_0 : decode cX6_setUp 0 = .ok (.iload_n 1, 1) := by decide +kernel
theorem dX6_setUp_1 : decode cX6_setUp 1 = .ok (.iconst 2, 1) := by decide +kernel
theorem dX6_setUp_2 : decode cX6_setUp 2 = .ok (.bipush 8, 2) := by decide +kernel
theorem dX6_setUp_4 : decode cX6_setUp 4 = .ok (.invokestatic 34, 3) := by decide +kernel
theorem dX6_setUp_7 : decode cX6_setUp 7 = .ok (.ifCond .eq 23, 3) := by decide +kernel
theorem dX6_setUp_10 : decode cX6_setUp 10 = .ok (.iload_n 2, 1) := by decide +kernel
theorem dX6_setUp_11 : decode cX6_setUp 11 = .ok (.iconst 1, 1) := by decide +kernel
theorem dX6_setUp_12 : decode cX6_setUp 12 = .ok (.bipush 6, 2) := by decide +kernel
theorem dX6_setUp_14 : decode cX6_setUp 14 = .ok (.invokestatic 34, 3) := by decide +kernel
theorem dX6_setUp_17 : decode cX6_setUp 17 = .ok (.ifCond .eq 13, 3) := by decide +kernel
theorem dX6_setUp_20 : decode cX6_setUp 20 = .ok (.iload_n 3, 1) := by decide +kernel
theorem dX6_setUp_21 : decode cX6_setUp 21 = .ok (.iconst 1, 1) := by decide +kernel
theorem dX6_setUp_22 : decode cX6_setUp 22 = .ok (.bipush 8, 2) := by decide +kernel
theorem dX6_setUp_24 : decode cX6_setUp 24 = .ok (.invokestatic 34, 3) := by decide +kernel
theorem dX6_setUp_27 : decode cX6_setUp 27 = .ok (.ifCond .ne 6, 3) := by decide +kernel
theorem dX6_setUp_30 : decode cX6_setUp 30 = .ok (.bipush (-2), 2) := by decide +kernel
theorem dX6_setUp_32 : decode cX6_setUp 32 = .ok (.ireturn, 1) := by decide +kernel
theorem dX6_setUp_33 : decode cX6_setUp 33 = .ok (.aload_n 0, 1) := by decide +kernel
theorem dX6_setUp_34 : decode cX6_setUp 34 = .ok (.iconst 0, 1) := by decide +kernel
theorem dX6_setUp_35 : decode cX6_setUp 35 = .ok (.bipush 6, 2) := by decide +kernel
theorem dX6_setUp_37 : decode cX6_setUp 37 = .ok (.invokevirtual 105, 3) := by decide +kernel
theorem dX6_setUp_40 : decode cX6_setUp 40 = .ok (.aload_n 0, 1) := by decide +kernel
theorem dX6_setUp_41 : decode cX6_setUp 41 = .ok (.iconst 0, 1) := by decide +kernel
theorem dX6_setUp_42 : decode cX6_setUp 42 = .ok (.invokevirtual 96, 3) := by decide +kernel
theorem dX6_setUp_45 : decode cX6_setUp 45 = .ok (.istore 4, 2) := by decide +kernel
theorem dX6_setUp_47 : decode cX6_setUp 47 = .ok (.aload_n 0, 1) := by decide +kernel
theorem dX6_setUp_48 : decode cX6_setUp 48 = .ok (.getfield 7, 3) := by decide +kernel
theorem dX6_setUp_51 : decode cX6_setUp 51 = .ok (.sipush 930, 3) := by decide +kernel
theorem dX6_setUp_54 : decode cX6_setUp 54 = .ok (.dup2, 1) := by decide +kernel
theorem dX6_setUp_55 : decode cX6_setUp 55 = .ok (.iaload, 1) := by decide +kernel
theorem dX6_setUp_56 : decode cX6_setUp 56 = .ok (.iload 4, 2) := by decide +kernel
theorem dX6_setUp_58 : decode cX6_setUp 58 = .ok (.iadd, 1) := by decide +kernel
theorem dX6_setUp_59 : decode cX6_setUp 59 = .ok (.iastore, 1) := by decide +kernel
theorem dX6_setUp_60 : decode cX6_setUp 60 = .ok (.aload_n 0, 1) := by decide +kernel
theorem dX6_setUp_61 : decode cX6_setUp 61 = .ok (.sipush 924, 3) := by decide +kernel
theorem dX6_setUp_64 : decode cX6_setUp 64 = .ok (.iload_n 1, 1) := by decide +kernel
theorem dX6_setUp_65 : decode cX6_setUp 65 = .ok (.iload_n 2, 1) := by decide +kernel
theorem dX6_setUp_66 : decode cX6_setUp 66 = .ok (.iload_n 3, 1) := by decide +kernel
theorem dX6_setUp_67 : decode cX6_setUp 67 = .ok (.invokevirtual 22, 3) := by decide +kernel
theorem dX6_setUp_70 : decode cX6_setUp 70 = .ok (.aload_n 0, 1) := by decide +kernel
theorem dX6_setUp_71 : decode cX6_setUp 71 = .ok (.iload 4, 2) := by decide +kernel
theorem dX6_setUp_73 : decode cX6_setUp 73 = .ok (.invokevirtual 109, 3) := by decide +kernel
theorem dX6_setUp_76 : decode cX6_setUp 76 = .ok (.ireturn, 1) := by decide +kernel
set_option maxRecDepth 20000 in
theorem ggX6_rules_X6_in : GoodIn wsX6_rules wsX6_in := goodIn_r _ [5] (by decide +kernel) (by decide +kernel)
set_option maxRecDepth 20000 in
theorem gX6_rules_X6_in : GoodIn wsX6_rules (va_wsS RX6 34 yX6_in wsX6_in) := goodIn_app (goodIn_of _ (by decide +kernel)) ggX6_rules_X6_in
set_option maxRecDepth 20000 in
theorem ggX6_rules_X6_copies : GoodIn wsX6_rules wsX6_copies := goodIn_r _ [9, 1, 15, 16, 17, 18, 19, 20, 21, 22, 23, 24, 25, 26] (by decide +kernel) (by decide +kernel)
set_option maxRecDepth 20000 in
theorem gX6_rules_X6_copies : GoodIn wsX6_rules (wsV RX6 105 RX6 yX6_copies wsX6_copies) := goodIn_app (goodIn_of _ (by decide +kernel)) ggX6_rules_X6_copies
set_option maxRecDepth 20000 in
theorem ggX6_rules_X6_accepts : GoodIn wsX6_rules wsX6_accepts := goodIn_r _ [13, 14, 6, 7, 8, 4, 9, 1, 15, 16, 17, 18, 19, 20, 21, 22, 23, 24, 25, 26] (by decide +kernel) (by decide +kernel)
set_option maxRecDepth 20000 in
theorem gX6_rules_X6_accepts : GoodIn wsX6_rules (wsV RX6 109 RX6 yX6_accepts wsX6_accepts) := goodIn_app (goodIn_of _ (by decide +kernel)) ggX6_rules_X6_accepts
theorem dX6_rules_0 : decode cX6_rules 0 = .ok (.iload_n 2, 1) := by decide +kernel
theorem dX6_rules_1 : decode cX6_rules 1 = .ok (.iconst 0, 1) := by decide +kernel
theorem dX6_rules_2 : decode cX6_rules 2 = .ok (.iload_n 3, 1) := by decide +kernel
theorem dX6_rules_3 : decode cX6_rules 3 = .ok (.invokestatic 34, 3) := by decide +kernel
theorem dX6_rules_6 : decode cX6_rules 6 = .ok (.ifCond .ne 6, 3) := by decide +kernel
theorem dX6_rules_9 : decode cX6_rules 9 = .ok (.bipush (-2), 2) := by decide +kernel
theorem dX6_rules_11 : decode cX6_rules 11 = .ok (.ireturn, 1) := by decide +kernel
theorem dX6_rules_12 : decode cX6_rules 12 = .ok (.aload_n 0, 1) := by decide +kernel
theorem dX6_rules_13 : decode cX6_rules 13 = .ok (.getfield 7, 3) := by decide +kernel
theorem dX6_rules_16 : decode cX6_rules 16 = .ok (.iload_n 1, 1) := by decide +kernel
theorem dX6_rules_17 : decode cX6_rules 17 = .ok (.iaload, 1) := by decide +kernel
theorem dX6_rules_18 : decode cX6_rules 18 = .ok (.istore 4, 2) := by decide +kernel
theorem dX6_rules_20 : decode cX6_rules 20 = .ok (.iload 4, 2) := by decide +kernel
theorem dX6_rules_22 : decode cX6_rules 22 = .ok (.iload_n 2, 1) := by decide +kernel
theorem dX6_rules_23 : decode cX6_rules 23 = .ok (.if_icmp .ne 6, 3) := by decide +kernel
theorem dX6_rules_26 : decode cX6_rules 26 = .ok (.bipush (-6), 2) := by decide +kernel
theorem dX6_rules_28 : decode cX6_rules 28 = .ok (.ireturn, 1) := by decide +kernel
theorem dX6_rules_29 : decode cX6_rules 29 = .ok (.aload_n 0, 1) := by decide +kernel
theorem dX6_rules_30 : decode cX6_rules 30 = .ok (.iconst 0, 1) := by decide +kernel
theorem dX6_rules_31 : decode cX6_rules 31 = .ok (.bipush 6, 2) := by decide +kernel
theorem dX6_rules_33 : decode cX6_rules 33 = .ok (.invokevirtual 105, 3) := by decide +kernel
theorem dX6_rules_36 : decode cX6_rules 36 = .ok (.aload_n 0, 1) := by decide +kernel
theorem dX6_rules_37 : decode cX6_rules 37 = .ok (.getfield 7, 3) := by decide +kernel
theorem dX6_rules_40 : decode cX6_rules 40 = .ok (.sipush 924, 3) := by decide +kernel
theorem dX6_rules_43 : decode cX6_rules 43 = .ok (.iload_n 1, 1) := by decide +kernel
theorem dX6_rules_44 : decode cX6_rules 44 = .ok (.iadd, 1) := by decide +kernel
theorem dX6_rules_45 : decode cX6_rules 45 = .ok (.iload_n 2, 1) := by decide +kernel
theorem dX6_rules_46 : decode cX6_rules 46 = .ok (.iastore, 1) := by decide +kernel
theorem dX6_rules_47 : decode cX6_rules 47 = .ok (.aload_n 0, 1) := by decide +kernel
theorem dX6_rules_48 : decode cX6_rules 48 = .ok (.iload 4, 2) := by decide +kernel
theorem dX6_rules_50 : decode cX6_rules 50 = .ok (.invokevirtual 109, 3) := by decide +kernel
theorem dX6_rules_53 : decode cX6_rules 53 = .ok (.ireturn, 1) := by decide +kernel
set_option maxRecDepth 20000 in
theorem ggX6_setChoiceRule_X6_rules : GoodIn wsX6_setChoiceRule wsX6_rules := goodIn_r _ [5, 6, 7, 8, 4, 9, 10, 11, 12, 13, 14, 15, 16, 17, 18, 19, 20, 21, 22, 23, 24, 25, 26, 27, 28, 29, 30] (by decide +kernel) (by decide +kernel)
set_option maxRecDepth 20000 in
theorem gX6_setChoiceRule_X6_rules : GoodIn wsX6_setChoiceRule (wsV RX6 112 RX6 yX6_rules wsX6_rules) := goodIn_app (goodIn_of _ (by decide +kernel)) ggX6_setChoiceRule_X6_rules
theorem dX6_setChoiceRule_0 : decode cX6_setChoiceRule 0 = .ok (.aload_n 0, 1) := by decide +kernel
theorem dX6_setChoiceRule_1 : decode cX6_setChoiceRule 1 = .ok (.iconst 3, 1) := by decide +kernel
theorem dX6_setChoiceRule_2 : decode cX6_setChoiceRule 2 = .ok (.iload_n 1, 1) := by decide +kernel
theorem dX6_setChoiceRule_3 : decode cX6_setChoiceRule 3 = .ok (.iconst 2, 1) := by decide +kernel
theorem dX6_setChoiceRule_4 : decode cX6_setChoiceRule 4 = .ok (.invokevirtual 112, 3) := by decide +kernel
theorem dX6_setChoiceRule_7 : decode cX6_setChoiceRule 7 = .ok (.ireturn, 1) := by decide +kernel
set_option maxRecDepth 20000 in
theorem ggX6_setPairRule_X6_rules : GoodIn wsX6_setPairRule wsX6_rules := goodIn_r _ [5, 6, 7, 8, 4, 9, 10, 11, 12, 13, 14, 15, 16, 17, 18, 19, 20, 21, 22, 23, 24, 25, 26, 27, 28, 29, 30] (by decide +kernel) (by decide +kernel)
set_option maxRecDepth 20000 in
theorem gX6_setPairRule_X6_rules : GoodIn wsX6_setPairRule (wsV RX6 112 RX6 yX6_rules wsX6_rules) := goodIn_app (goodIn_of _ (by decide +kernel)) ggX6_setPairRule_X6_rules
theorem dX6_setPairRule_0 : decode cX6_setPairRule 0 = .ok (.aload_n 0, 1) := by decide +kernel
theorem dX6_setPairRule_1 : decode cX6_setPairRule 1 = .ok (.iconst 4, 1) := by decide +kernel
theorem dX6_setPairRule_2 : decode cX6_setPairRule 2 = .ok (.iload_n 1, 1) := by decide +kernel
theorem dX6_setPairRule_3 : decode cX6_setPairRule 3 = .ok (.iconst 1, 1) := by decide +kernel
theorem dX6_setPairRule_4 : decode cX6_setPairRule 4 = .ok (.invokevirtual 112, 3) := by decide +kernel
theorem dX6_setPairRule_7 : decode cX6_setPairRule 7 = .ok (.ireturn, 1) := by decide +kernel
set_option maxRecDepth 20000 in
theorem ggX6_connect_X6_copies : GoodIn wsX6_connect wsX6_copies := goodIn_r _ [5, 6, 83, 84, 85, 86, 87, 88, 89, 90, 91, 92, 93, 94] (by decide +kernel) (by decide +kernel)
set_option maxRecDepth 20000 in
theorem gX6_connect_X6_copies : GoodIn wsX6_connect (wsV RX6 105 RX6 yX6_copies wsX6_copies) := goodIn_app (goodIn_of _ (by decide +kernel)) ggX6_connect_X6_copies
set_option maxRecDepth 20000 in
theorem ggX6_connect_X6_connects : GoodIn wsX6_connect wsX6_connects := goodIn_r _ [10, 6, 11, 12, 13, 4, 14, 15, 16, 17, 18, 19, 20, 21, 22, 23, 24, 25, 26, 27, 28, 29, 30, 31, 32, 33, 34, 35, 36, 37, 38, 39, 40, 41, 42, 43, 44, 45, 46, 47, 48, 49, 50, 51, 52, 53, 54, 55, 56, 57, 58, 59, 60, 61, 62, 63, 64, 65, 66, 67, 68, 69, 70, 71, 72, 73, 74, 75, 76, 77, 83, 84, 85, 86, 87, 88, 89, 90, 91, 92, 93, 94] (by decide +kernel) (by decide +kernel)
set_option maxRecDepth 20000 in
theorem gX6_connect_X6_connects : GoodIn wsX6_connect (wsV RX6 115 RX6 yX6_connects wsX6_connects) := goodIn_app (goodIn_of _ (by decide +kernel)) ggX6_connect_X6_connects
set_option maxRecDepth 20000 in
theorem ggX6_connect_X6_accepts : GoodIn wsX6_connect wsX6_accepts := goodIn_r _ [81, 82, 1, 2, 3, 4, 5, 6, 83, 84, 85, 86, 87, 88, 89, 90, 91, 92, 93, 94] (by decide +kernel) (by decide +kernel)
set_option maxRecDepth 20000 in
theorem gX6_connect_X6_accepts : GoodIn wsX6_connect (wsV RX6 109 RX6 yX6_accepts wsX6_accepts) := goodIn_app (goodIn_of _ (by decide +kernel)) ggX6_connect_X6_accepts
theorem dX6_connect_0 : decode cX6_connect 0 = .ok (.aload_n 0, 1) := by decide +kernel
theorem dX6_connect_1 : decode cX6_connect 1 = .ok (.iconst 0, 1) := by decide +kernel
theorem dX6_connect_2 : decode cX6_connect 2 = .ok (.bipush 6, 2) := by decide +kernel
theorem dX6_connect_4 : decode cX6_connect 4 = .ok (.invokevirtual 105, 3) := by decide +kernel
theorem dX6_connect_7 : decode cX6_connect 7 = .ok (.aload_n 0, 1) := by decide +kernel
theorem dX6_connect_8 : decode cX6_connect 8 = .ok (.aload_n 0, 1) := by decide +kernel
theorem dX6_connect_9 : decode cX6_connect 9 = .ok (.sipush 924, 3) := by decide +kernel
theorem dX6_connect_12 : decode cX6_connect 12 = .ok (.iload_n 1, 1) := by decide +kernel
theorem dX6_connect_13 : decode cX6_connect 13 = .ok (.iload_n 2, 1) := by decide +kernel
theorem dX6_connect_14 : decode cX6_connect 14 = .ok (.invokevirtual 115, 3) := by decide +kernel
theorem dX6_connect_17 : decode cX6_connect 17 = .ok (.invokevirtual 109, 3) := by decide +kernel
theorem dX6_connect_20 : decode cX6_connect 20 = .ok (.ireturn, 1) := by decide +kernel
set_option maxRecDepth 20000 in
theorem ggX6_disconnect_X6_copies : GoodIn wsX6_disconnect wsX6_copies := goodIn_r _ [5, 6, 35, 36, 37, 38, 39, 40, 41, 42, 43, 44, 45, 46] (by decide +kernel) (by decide +kernel)
set_option maxRecDepth 20000 in
theorem gX6_disconnect_X6_copies : GoodIn wsX6_disconnect (wsV RX6 105 RX6 yX6_copies wsX6_copies) := goodIn_app (goodIn_of _ (by decide +kernel)) ggX6_disconnect_X6_copies
set_option maxRecDepth 20000 in
theorem ggX6_disconnect_X6_disconnects : GoodIn wsX6_disconnect wsX6_disconnects := goodIn_r _ [10, 6, 11, 12, 13, 4, 14, 15, 16, 17, 18, 19, 20, 21, 22, 23, 24, 25, 26, 27, 28, 29, 35, 36, 37, 38, 39, 40, 41, 42, 43, 44, 45, 46] (by decide +kernel) (by decide +kernel)
set_option maxRecDepth 20000 in
theorem gX6_disconnect_X6_disconnects : GoodIn wsX6_disconnect (wsV RX6 118 RX6 yX6_disconnects wsX6_disconnects) := goodIn_app (goodIn_of _ (by decide +kernel)) ggX6_disconnect_X6_disconnects
set_option maxRecDepth 20000 in
theorem ggX6_disconnect_X6_accepts : GoodIn wsX6_disconnect wsX6_accepts := goodIn_r _ [33, 34, 1, 2, 3, 4, 5, 6, 35, 36, 37, 38, 39, 40, 41, 42, 43, 44, 45, 46] (by decide +kernel) (by decide +kernel)
set_option maxRecDepth 20000 in
theorem gX6_disconnect_X6_accepts : GoodIn wsX6_disconnect (wsV RX6 109 RX6 yX6_accepts wsX6_accepts) := goodIn_app (goodIn_of _ (by decide +kernel)) ggX6_disconnect_X6_accepts
theorem dX6_disconnect_0 : decode cX6_disconnect 0 = .ok (.aload_n 0, 1) := by decide +kernel
theorem dX6_disconnect_1 : decode cX6_disconnect 1 = .ok (.iconst 0, 1) := by decide +kernel
theorem dX6_disconnect_2 : decode cX6_disconnect 2 = .ok (.bipush 6, 2) := by decide +kernel
theorem dX6_disconnect_4 : decode cX6_disconnect 4 = .ok (.invokevirtual 105, 3) := by decide +kernel
theorem dX6_disconnect_7 : decode cX6_disconnect 7 = .ok (.aload_n 0, 1) := by decide +kernel
theorem dX6_disconnect_8 : decode cX6_disconnect 8 = .ok (.aload_n 0, 1) := by decide +kernel
theorem dX6_disconnect_9 : decode cX6_disconnect 9 = .ok (.sipush 924, 3) := by decide +kernel
theorem dX6_disconnect_12 : decode cX6_disconnect 12 = .ok (.iload_n 1, 1) := by decide +kernel
theorem dX6_disconnect_13 : decode cX6_disconnect 13 = .ok (.invokevirtual 118, 3) := by decide +kernel
theorem dX6_disconnect_16 : decode cX6_disconnect 16 = .ok (.invokevirtual 109, 3) := by decide +kernel
theorem dX6_disconnect_19 : decode cX6_disconnect 19 = .ok (.ireturn, 1) := by decide +kernel
set_option maxRecDepth 20000 in
theorem ggX6_takeOut_X6_copies : GoodIn wsX6_takeOut wsX6_copies := goodIn_r _ [5, 6, 83, 84, 85, 86, 87, 88, 89, 90, 91, 92, 93, 94] (by decide +kernel) (by decide +kernel)
set_option maxRecDepth 20000 in
theorem gX6_takeOut_X6_copies : GoodIn wsX6_takeOut (wsV RX6 105 RX6 yX6_copies wsX6_copies) := goodIn_app (goodIn_of _ (by decide +kernel)) ggX6_takeOut_X6_copies
set_option maxRecDepth 20000 in
theorem ggX6_takeOut_X6_takesOut : GoodIn wsX6_takeOut wsX6_takesOut := goodIn_r _ [10, 6, 11, 12, 13, 4, 14, 15, 16, 17, 18, 19, 20, 21, 22, 23, 24, 25, 26, 27, 28, 29, 30, 31, 32, 33, 34, 35, 36, 37, 38, 39, 40, 41, 42, 43, 44, 45, 46, 47, 48, 49, 50, 51, 52, 53, 54, 55, 56, 57, 58, 59, 60, 61, 62, 63, 64, 65, 66, 67, 68, 69, 70, 71, 72, 73, 74, 75, 76, 77, 83, 84, 85, 86, 87, 88, 89, 90, 91, 92, 93, 94] (by decide +kernel) (by decide +kernel)
set_option maxRecDepth 20000 in
theorem gX6_takeOut_X6_takesOut : GoodIn wsX6_takeOut (wsV RX6 121 RX6 yX6_takesOut wsX6_takesOut) := goodIn_app (goodIn_of _ (by decide +kernel)) ggX6_takeOut_X6_takesOut
set_option maxRecDepth 20000 in
theorem ggX6_takeOut_X6_accepts : GoodIn wsX6_takeOut wsX6_accepts := goodIn_r _ [81, 82, 1, 2, 3, 4, 5, 6, 83, 84, 85, 86, 87, 88, 89, 90, 91, 92, 93, 94] (by decide +kernel) (by decide +kernel)
set_option maxRecDepth 20000 in
theorem gX6_takeOut_X6_accepts : GoodIn wsX6_takeOut (wsV RX6 109 RX6 yX6_accepts wsX6_accepts) := goodIn_app (goodIn_of _ (by decide +kernel)) ggX6_takeOut_X6_accepts
theorem dX6_takeOut_0 : decode cX6_takeOut 0 = .ok (.aload_n 0, 1) := by decide +kernel
theorem dX6_takeOut_1 : decode cX6_takeOut 1 = .ok (.iconst 0, 1) := by decide +kernel
theorem dX6_takeOut_2 : decode cX6_takeOut 2 = .ok (.bipush 6, 2) := by decide +kernel
theorem dX6_takeOut_4 : decode cX6_takeOut 4 = .ok (.invokevirtual 105, 3) := by decide +kernel
theorem dX6_takeOut_7 : decode cX6_takeOut 7 = .ok (.aload_n 0, 1) := by decide +kernel
theorem dX6_takeOut_8 : decode cX6_takeOut 8 = .ok (.aload_n 0, 1) := by decide +kernel
theorem dX6_takeOut_9 : decode cX6_takeOut 9 = .ok (.sipush 924, 3) := by decide +kernel
theorem dX6_takeOut_12 : decode cX6_takeOut 12 = .ok (.iload_n 1, 1) := by decide +kernel
theorem dX6_takeOut_13 : decode cX6_takeOut 13 = .ok (.invokevirtual 121, 3) := by decide +kernel
theorem dX6_takeOut_16 : decode cX6_takeOut 16 = .ok (.invokevirtual 109, 3) := by decide +kernel
theorem dX6_takeOut_19 : decode cX6_takeOut 19 = .ok (.ireturn, 1) := by decide +kernel
set_option maxRecDepth 20000 in
theorem ggX6_putBack_X6_copies : GoodIn wsX6_putBack wsX6_copies := goodIn_r _ [5, 6, 29, 30, 31, 32, 33, 34, 35, 36, 37, 38, 39, 40] (by decide +kernel) (by decide +kernel)
set_option maxRecDepth 20000 in
theorem gX6_putBack_X6_copies : GoodIn wsX6_putBack (wsV RX6 105 RX6 yX6_copies wsX6_copies) := goodIn_app (goodIn_of _ (by decide +kernel)) ggX6_putBack_X6_copies
set_option maxRecDepth 20000 in
theorem ggX6_putBack_X6_putsBack : GoodIn wsX6_putBack wsX6_putsBack := goodIn_r _ [10, 6, 11, 12, 13, 4, 14, 15, 16, 17, 18, 19, 20, 21, 22, 23, 29, 30, 31, 32, 33, 34, 35, 36, 37, 38, 39, 40] (by decide +kernel) (by decide +kernel)
set_option maxRecDepth 20000 in
theorem gX6_putBack_X6_putsBack : GoodIn wsX6_putBack (wsV RX6 124 RX6 yX6_putsBack wsX6_putsBack) := goodIn_app (goodIn_of _ (by decide +kernel)) ggX6_putBack_X6_putsBack
set_option maxRecDepth 20000 in
theorem ggX6_putBack_X6_accepts : GoodIn wsX6_putBack wsX6_accepts := goodIn_r _ [27, 28, 1, 2, 3, 4, 5, 6, 29, 30, 31, 32, 33, 34, 35, 36, 37, 38, 39, 40] (by decide +kernel) (by decide +kernel)
set_option maxRecDepth 20000 in
theorem gX6_putBack_X6_accepts : GoodIn wsX6_putBack (wsV RX6 109 RX6 yX6_accepts wsX6_accepts) := goodIn_app (goodIn_of _ (by decide +kernel)) ggX6_putBack_X6_accepts
theorem dX6_putBack_0 : decode cX6_putBack 0 = .ok (.aload_n 0, 1) := by decide +kernel
theorem dX6_putBack_1 : decode cX6_putBack 1 = .ok (.iconst 0, 1) := by decide +kernel
theorem dX6_putBack_2 : decode cX6_putBack 2 = .ok (.bipush 6, 2) := by decide +kernel
theorem dX6_putBack_4 : decode cX6_putBack 4 = .ok (.invokevirtual 105, 3) := by decide +kernel
theorem dX6_putBack_7 : decode cX6_putBack 7 = .ok (.aload_n 0, 1) := by decide +kernel
theorem dX6_putBack_8 : decode cX6_putBack 8 = .ok (.aload_n 0, 1) := by decide +kernel
theorem dX6_putBack_9 : decode cX6_putBack 9 = .ok (.sipush 924, 3) := by decide +kernel
theorem dX6_putBack_12 : decode cX6_putBack 12 = .ok (.iload_n 1, 1) := by decide +kernel
theorem dX6_putBack_13 : decode cX6_putBack 13 = .ok (.invokevirtual 124, 3) := by decide +kernel
theorem dX6_putBack_16 : decode cX6_putBack 16 = .ok (.invokevirtual 109, 3) := by decide +kernel
theorem dX6_putBack_19 : decode cX6_putBack 19 = .ok (.ireturn, 1) := by decide +kernel
set_option maxRecDepth 20000 in
theorem ggX6_pack_X6_copies : GoodIn wsX6_pack wsX6_copies := goodIn_r _ [5, 6, 88, 89, 90, 91, 92, 93, 94, 95, 96, 97, 98, 99] (by decide +kernel) (by decide +kernel)
set_option maxRecDepth 20000 in
theorem gX6_pack_X6_copies : GoodIn wsX6_pack (wsV RX6 105 RX6 yX6_copies wsX6_copies) := goodIn_app (goodIn_of _ (by decide +kernel)) ggX6_pack_X6_copies
set_option maxRecDepth 20000 in
theorem ggX6_pack_X6_packs : GoodIn wsX6_pack wsX6_packs := goodIn_r _ [10, 6, 11, 12, 13, 14, 4, 15, 16, 17, 18, 19, 20, 21, 22, 23, 24, 25, 26, 27, 28, 29, 30, 31, 32, 33, 34, 35, 36, 37, 38, 39, 40, 41, 42, 43, 44, 45, 46, 47, 48, 49, 50, 51, 52, 53, 54, 55, 56, 57, 58, 59, 60, 61, 62, 63, 64, 65, 66, 67, 68, 69, 70, 71, 72, 73, 74, 75, 76, 77, 78, 79, 80, 81, 82, 88, 89, 90, 91, 92, 93, 94, 95, 96, 97, 98, 99] (by decide +kernel) (by decide +kernel)
set_option maxRecDepth 20000 in
theorem gX6_pack_X6_packs : GoodIn wsX6_pack (wsV RX6 127 RX6 yX6_packs wsX6_packs) := goodIn_app (goodIn_of _ (by decide +kernel)) ggX6_pack_X6_packs
set_option maxRecDepth 20000 in
theorem ggX6_pack_X6_accepts : GoodIn wsX6_pack wsX6_accepts := goodIn_r _ [86, 87, 1, 2, 3, 4, 5, 6, 88, 89, 90, 91, 92, 93, 94, 95, 96, 97, 98, 99] (by decide +kernel) (by decide +kernel)
set_option maxRecDepth 20000 in
theorem gX6_pack_X6_accepts : GoodIn wsX6_pack (wsV RX6 109 RX6 yX6_accepts wsX6_accepts) := goodIn_app (goodIn_of _ (by decide +kernel)) ggX6_pack_X6_accepts
theorem dX6_pack_0 : decode cX6_pack 0 = .ok (.aload_n 0, 1) := by decide +kernel
theorem dX6_pack_1 : decode cX6_pack 1 = .ok (.iconst 0, 1) := by decide +kernel
theorem dX6_pack_2 : decode cX6_pack 2 = .ok (.bipush 6, 2) := by decide +kernel
theorem dX6_pack_4 : decode cX6_pack 4 = .ok (.invokevirtual 105, 3) := by decide +kernel
theorem dX6_pack_7 : decode cX6_pack 7 = .ok (.aload_n 0, 1) := by decide +kernel
theorem dX6_pack_8 : decode cX6_pack 8 = .ok (.aload_n 0, 1) := by decide +kernel
theorem dX6_pack_9 : decode cX6_pack 9 = .ok (.sipush 924, 3) := by decide +kernel
theorem dX6_pack_12 : decode cX6_pack 12 = .ok (.invokevirtual 127, 3) := by decide +kernel
theorem dX6_pack_15 : decode cX6_pack 15 = .ok (.invokevirtual 109, 3) := by decide +kernel
theorem dX6_pack_18 : decode cX6_pack 18 = .ok (.ireturn, 1) := by decide +kernel
theorem dX6_type_0 : decode cX6_type 0 = .ok (.aload_n 0, 1) := by decide +kernel
theorem dX6_type_1 : decode cX6_type 1 = .ok (.getfield 130, 3) := by decide +kernel
theorem dX6_type_4 : decode cX6_type 4 = .ok (.bipush 60, 2) := by decide +kernel
theorem dX6_type_6 : decode cX6_type 6 = .ok (.if_icmp .ne 6, 3) := by decide +kernel
theorem dX6_type_9 : decode cX6_type 9 = .ok (.bipush (-5), 2) := by decide +kernel
theorem dX6_type_11 : decode cX6_type 11 = .ok (.ireturn, 1) := by decide +kernel
theorem dX6_type_12 : decode cX6_type 12 = .ok (.aload_n 0, 1) := by decide +kernel
theorem dX6_type_13 : decode cX6_type 13 = .ok (.getfield 13, 3) := by decide +kernel
theorem dX6_type_16 : decode cX6_type 16 = .ok (.aload_n 0, 1) := by decide +kernel
theorem dX6_type_17 : decode cX6_type 17 = .ok (.getfield 130, 3) := by decide +kernel
theorem dX6_type_20 : decode cX6_type 20 = .ok (.iload_n 1, 1) := by decide +kernel
theorem dX6_type_21 : decode cX6_type 21 = .ok (.iastore, 1) := by decide +kernel
theorem dX6_type_22 : decode cX6_type 22 = .ok (.aload_n 0, 1) := by decide +kernel
theorem dX6_type_23 : decode cX6_type 23 = .ok (.dup, 1) := by decide +kernel
theorem dX6_type_24 : decode cX6_type 24 = .ok (.getfield 130, 3) := by decide +kernel
theorem dX6_type_27 : decode cX6_type 27 = .ok (.iconst 1, 1) := by decide +kernel
theorem dX6_type_28 : decode cX6_type 28 = .ok (.iadd, 1) := by decide +kernel
theorem dX6_type_29 : decode cX6_type 29 = .ok (.putfield 130, 3) := by decide +kernel
theorem dX6_type_32 : decode cX6_type 32 = .ok (.aload_n 0, 1) := by decide +kernel
theorem dX6_type_33 : decode cX6_type 33 = .ok (.getfield 130, 3) := by decide +kernel
theorem dX6_type_36 : decode cX6_type 36 = .ok (.ireturn, 1) := by decide +kernel
theorem dX6_clearText_0 : decode cX6_clearText 0 = .ok (.aload_n 0, 1) := by decide +kernel
theorem dX6_clearText_1 : decode cX6_clearText 1 = .ok (.getfield 130, 3) := by decide +kernel
theorem dX6_clearText_4 : decode cX6_clearText 4 = .ok (.istore_n 1, 1) := by decide +kernel
theorem dX6_clearText_5 : decode cX6_clearText 5 = .ok (.aload_n 0, 1) := by decide +kernel
theorem dX6_clearText_6 : decode cX6_clearText 6 = .ok (.iconst 0, 1) := by decide +kernel
theorem dX6_clearText_7 : decode cX6_clearText 7 = .ok (.putfield 130, 3) := by decide +kernel
theorem dX6_clearText_10 : decode cX6_clearText 10 = .ok (.iload_n 1, 1) := by decide +kernel
theorem dX6_clearText_11 : decode cX6_clearText 11 = .ok (.ireturn, 1) := by decide +kernel
set_option maxRecDepth 20000 in
theorem ggX6_isHere_X6_in : GoodIn wsX6_isHere wsX6_in := goodIn_r _ [7] (by decide +kernel) (by decide +kernel)
set_option maxRecDepth 20000 in
theorem gX6_isHere_X6_in : GoodIn wsX6_isHere (va_wsS RX6 34 yX6_in wsX6_in) := goodIn_app (goodIn_of _ (by decide +kernel)) ggX6_isHere_X6_in
theorem dX6_isHere_0 : decode cX6_isHere 0 = .ok (.aload_n 0, 1) := by decide +kernel
theorem dX6_isHere_1 : decode cX6_isHere 1 = .ok (.getfield 133, 3) := by decide +kernel
theorem dX6_isHere_4 : decode cX6_isHere 4 = .ok (.aload_n 0, 1) := by decide +kernel
theorem dX6_isHere_5 : decode cX6_isHere 5 = .ok (.getfield 130, 3) := by decide +kernel
theorem dX6_isHere_8 : decode cX6_isHere 8 = .ok (.if_icmp .ge 24, 3) := by decide +kernel
theorem dX6_isHere_11 : decode cX6_isHere 11 = .ok (.aload_n 0, 1) := by decide +kernel
theorem dX6_isHere_12 : decode cX6_isHere 12 = .ok (.getfield 13, 3) := by decide +kernel
theorem dX6_isHere_15 : decode cX6_isHere 15 = .ok (.aload_n 0, 1) := by decide +kernel
theorem dX6_isHere_16 : decode cX6_isHere 16 = .ok (.getfield 133, 3) := by decide +kernel
theorem dX6_isHere_19 : decode cX6_isHere 19 = .ok (.iaload, 1) := by decide +kernel
theorem dX6_isHere_20 : decode cX6_isHere 20 = .ok (.iload_n 1, 1) := by decide +kernel
theorem dX6_isHere_21 : decode cX6_isHere 21 = .ok (.iload_n 2, 1) := by decide +kernel
theorem dX6_isHere_22 : decode cX6_isHere 22 = .ok (.invokestatic 34, 3) := by decide +kernel
theorem dX6_isHere_25 : decode cX6_isHere 25 = .ok (.ifCond .eq 7, 3) := by decide +kernel
theorem dX6_isHere_28 : decode cX6_isHere 28 = .ok (.iconst 1, 1) := by decide +kernel
theorem dX6_isHere_29 : decode cX6_isHere 29 = .ok (.goto 4, 3) := by decide +kernel
theorem dX6_isHere_32 : decode cX6_isHere 32 = .ok (.iconst 0, 1) := by decide +kernel
theorem dX6_isHere_33 : decode cX6_isHere 33 = .ok (.ireturn, 1) := by decide +kernel
set_option maxRecDepth 20000 in
theorem ggX6_takes_X6_isHere : GoodIn wsX6_takes wsX6_isHere := goodIn_r _ [6, 1, 7, 8, 9, 10, 5, 11, 12, 13, 14, 15, 16, 17, 18, 19, 20, 21, 22, 23] (by decide +kernel) (by decide +kernel)
set_option maxRecDepth 20000 in
theorem gX6_takes_X6_isHere : GoodIn wsX6_takes (wsV RX6 136 RX6 yX6_isHere wsX6_isHere) := goodIn_app (goodIn_of _ (by decide +kernel)) ggX6_takes_X6_isHere
theorem dX6_takes_0 : decode cX6_takes 0 = .ok (.aload_n 0, 1) := by decide +kernel
theorem dX6_takes_1 : decode cX6_takes 1 = .ok (.iload_n 1, 1) := by decide +kernel
theorem dX6_takes_2 : decode cX6_takes 2 = .ok (.iload_n 1, 1) := by decide +kernel
theorem dX6_takes_3 : decode cX6_takes 3 = .ok (.invokevirtual 136, 3) := by decide +kernel
theorem dX6_takes_6 : decode cX6_takes 6 = .ok (.istore_n 2, 1) := by decide +kernel
theorem dX6_takes_7 : decode cX6_takes 7 = .ok (.aload_n 0, 1) := by decide +kernel
theorem dX6_takes_8 : decode cX6_takes 8 = .ok (.dup, 1) := by decide +kernel
theorem dX6_takes_9 : decode cX6_takes 9 = .ok (.getfield 133, 3) := by decide +kernel
theorem dX6_takes_12 : decode cX6_takes 12 = .ok (.iload_n 2, 1) := by decide +kernel
theorem dX6_takes_13 : decode cX6_takes 13 = .ok (.ifCond .eq 7, 3) := by decide +kernel
theorem dX6_takes_16 : decode cX6_takes 16 = .ok (.iconst 1, 1) := by decide +kernel
theorem dX6_takes_17 : decode cX6_takes 17 = .ok (.goto 4, 3) := by decide +kernel
theorem dX6_takes_20 : decode cX6_takes 20 = .ok (.iconst 0, 1) := by decide +kernel
theorem dX6_takes_21 : decode cX6_takes 21 = .ok (.iadd, 1) := by decide +kernel
theorem dX6_takes_22 : decode cX6_takes 22 = .ok (.putfield 133, 3) := by decide +kernel
theorem dX6_takes_25 : decode cX6_takes 25 = .ok (.iload_n 2, 1) := by decide +kernel
theorem dX6_takes_26 : decode cX6_takes 26 = .ok (.ireturn, 1) := by decide +kernel
set_option maxRecDepth 20000 in
theorem ggX6_number_X6_isHere : GoodIn wsX6_number wsX6_isHere := goodIn_r _ [7, 2, 8, 1, 9, 10, 6, 11, 12, 13, 14, 15, 16, 17, 18, 19, 20, 21, 22, 23] (by decide +kernel) (by decide +kernel)
set_option maxRecDepth 20000 in
theorem gX6_number_X6_isHere : GoodIn wsX6_number (wsV RX6 136 RX6 yX6_isHere wsX6_isHere) := goodIn_app (goodIn_of _ (by decide +kernel)) ggX6_number_X6_isHere
theorem dX6_number_0 : decode cX6_number 0 = .ok (.aload_n 0, 1) := by decide +kernel
theorem dX6_number_1 : decode cX6_number 1 = .ok (.bipush 48, 2) := by decide +kernel
theorem dX6_number_3 : decode cX6_number 3 = .ok (.bipush 57, 2) := by decide +kernel
theorem dX6_number_5 : decode cX6_number 5 = .ok (.invokevirtual 136, 3) := by decide +kernel
theorem dX6_number_8 : decode cX6_number 8 = .ok (.ifCond .ne 5, 3) := by decide +kernel
theorem dX6_number_11 : decode cX6_number 11 = .ok (.iconst (-1), 1) := by decide +kernel
theorem dX6_number_12 : decode cX6_number 12 = .ok (.ireturn, 1) := by decide +kernel
theorem dX6_number_13 : decode cX6_number 13 = .ok (.aload_n 0, 1) := by decide +kernel
theorem dX6_number_14 : decode cX6_number 14 = .ok (.getfield 13, 3) := by decide +kernel
theorem dX6_number_17 : decode cX6_number 17 = .ok (.aload_n 0, 1) := by decide +kernel
theorem dX6_number_18 : decode cX6_number 18 = .ok (.getfield 133, 3) := by decide +kernel
theorem dX6_number_21 : decode cX6_number 21 = .ok (.iaload, 1) := by decide +kernel
theorem dX6_number_22 : decode cX6_number 22 = .ok (.bipush 48, 2) := by decide +kernel
theorem dX6_number_24 : decode cX6_number 24 = .ok (.isub, 1) := by decide +kernel
theorem dX6_number_25 : decode cX6_number 25 = .ok (.istore_n 1, 1) := by decide +kernel
theorem dX6_number_26 : decode cX6_number 26 = .ok (.aload_n 0, 1) := by decide +kernel
theorem dX6_number_27 : decode cX6_number 27 = .ok (.dup, 1) := by decide +kernel
theorem dX6_number_28 : decode cX6_number 28 = .ok (.getfield 133, 3) := by decide +kernel
theorem dX6_number_31 : decode cX6_number 31 = .ok (.iconst 1, 1) := by decide +kernel
theorem dX6_number_32 : decode cX6_number 32 = .ok (.iadd, 1) := by decide +kernel
theorem dX6_number_33 : decode cX6_number 33 = .ok (.putfield 133, 3) := by decide +kernel
theorem dX6_number_36 : decode cX6_number 36 = .ok (.iload_n 1, 1) := by decide +kernel
theorem dX6_number_37 : decode cX6_number 37 = .ok (.ifCond .le 64, 3) := by decide +kernel
theorem dX6_number_40 : decode cX6_number 40 = .ok (.aload_n 0, 1) := by decide +kernel
theorem dX6_number_41 : decode cX6_number 41 = .ok (.bipush 48, 2) := by decide +kernel
theorem dX6_number_43 : decode cX6_number 43 = .ok (.bipush 57, 2) := by decide +kernel
theorem dX6_number_45 : decode cX6_number 45 = .ok (.invokevirtual 136, 3) := by decide +kernel
theorem dX6_number_48 : decode cX6_number 48 = .ok (.ifCond .eq 53, 3) := by decide +kernel
theorem dX6_number_51 : decode cX6_number 51 = .ok (.bipush 10, 2) := by decide +kernel
theorem dX6_number_53 : decode cX6_number 53 = .ok (.iload_n 1, 1) := by decide +kernel
theorem dX6_number_54 : decode cX6_number 54 = .ok (.imul, 1) := by decide +kernel
theorem dX6_number_55 : decode cX6_number 55 = .ok (.aload_n 0, 1) := by decide +kernel
theorem dX6_number_56 : decode cX6_number 56 = .ok (.getfield 13, 3) := by decide +kernel
theorem dX6_number_59 : decode cX6_number 59 = .ok (.aload_n 0, 1) := by decide +kernel
theorem dX6_number_60 : decode cX6_number 60 = .ok (.getfield 133, 3) := by decide +kernel
theorem dX6_number_63 : decode cX6_number 63 = .ok (.iaload, 1) := by decide +kernel
theorem dX6_number_64 : decode cX6_number 64 = .ok (.iadd, 1) := by decide +kernel
theorem dX6_number_65 : decode cX6_number 65 = .ok (.bipush 48, 2) := by decide +kernel
theorem dX6_number_67 : decode cX6_number 67 = .ok (.isub, 1) := by decide +kernel
theorem dX6_number_68 : decode cX6_number 68 = .ok (.bipush 47, 2) := by decide +kernel
theorem dX6_number_70 : decode cX6_number 70 = .ok (.if_icmp .gt 31, 3) := by decide +kernel
theorem dX6_number_73 : decode cX6_number 73 = .ok (.bipush 10, 2) := by decide +kernel
theorem dX6_number_75 : decode cX6_number 75 = .ok (.iload_n 1, 1) := by decide +kernel
theorem dX6_number_76 : decode cX6_number 76 = .ok (.imul, 1) := by decide +kernel
theorem dX6_number_77 : decode cX6_number 77 = .ok (.aload_n 0, 1) := by decide +kernel
theorem dX6_number_78 : decode cX6_number 78 = .ok (.getfield 13, 3) := by decide +kernel
theorem dX6_number_81 : decode cX6_number 81 = .ok (.aload_n 0, 1) := by decide +kernel
theorem dX6_number_82 : decode cX6_number 82 = .ok (.getfield 133, 3) := by decide +kernel
theorem dX6_number_85 : decode cX6_number 85 = .ok (.iaload, 1) := by decide +kernel
theorem dX6_number_86 : decode cX6_number 86 = .ok (.iadd, 1) := by decide +kernel
theorem dX6_number_87 : decode cX6_number 87 = .ok (.bipush 48, 2) := by decide +kernel
theorem dX6_number_89 : decode cX6_number 89 = .ok (.isub, 1) := by decide +kernel
theorem dX6_number_90 : decode cX6_number 90 = .ok (.istore_n 1, 1) := by decide +kernel
theorem dX6_number_91 : decode cX6_number 91 = .ok (.aload_n 0, 1) := by decide +kernel
theorem dX6_number_92 : decode cX6_number 92 = .ok (.dup, 1) := by decide +kernel
theorem dX6_number_93 : decode cX6_number 93 = .ok (.getfield 133, 3) := by decide +kernel
theorem dX6_number_96 : decode cX6_number 96 = .ok (.iconst 1, 1) := by decide +kernel
theorem dX6_number_97 : decode cX6_number 97 = .ok (.iadd, 1) := by decide +kernel
theorem dX6_number_98 : decode cX6_number 98 = .ok (.putfield 133, 3) := by decide +kernel
theorem dX6_number_101 : decode cX6_number 101 = .ok (.iload_n 1, 1) := by decide +kernel
theorem dX6_number_102 : decode cX6_number 102 = .ok (.ireturn, 1) := by decide +kernel
set_option maxRecDepth 20000 in
theorem ggX6_digit_X6_isHere : GoodIn wsX6_digit wsX6_isHere := goodIn_r _ [7, 1, 8, 2, 9, 10, 6, 11, 12, 13, 14, 15, 16, 17, 18, 19, 20, 21, 22, 23] (by decide +kernel) (by decide +kernel)
set_option maxRecDepth 20000 in
theorem gX6_digit_X6_isHere : GoodIn wsX6_digit (wsV RX6 136 RX6 yX6_isHere wsX6_isHere) := goodIn_app (goodIn_of _ (by decide +kernel)) ggX6_digit_X6_isHere
theorem dX6_digit_0 : decode cX6_digit 0 = .ok (.aload_n 0, 1) := by decide +kernel
theorem dX6_digit_1 : decode cX6_digit 1 = .ok (.bipush 48, 2) := by decide +kernel
theorem dX6_digit_3 : decode cX6_digit 3 = .ok (.bipush 55, 2) := by decide +kernel
theorem dX6_digit_5 : decode cX6_digit 5 = .ok (.invokevirtual 136, 3) := by decide +kernel
theorem dX6_digit_8 : decode cX6_digit 8 = .ok (.ifCond .ne 5, 3) := by decide +kernel
theorem dX6_digit_11 : decode cX6_digit 11 = .ok (.iconst (-1), 1) := by decide +kernel
theorem dX6_digit_12 : decode cX6_digit 12 = .ok (.ireturn, 1) := by decide +kernel
theorem dX6_digit_13 : decode cX6_digit 13 = .ok (.aload_n 0, 1) := by decide +kernel
theorem dX6_digit_14 : decode cX6_digit 14 = .ok (.dup, 1) := by decide +kernel
theorem dX6_digit_15 : decode cX6_digit 15 = .ok (.getfield 133, 3) := by decide +kernel
theorem dX6_digit_18 : decode cX6_digit 18 = .ok (.iconst 1, 1) := by decide +kernel
theorem dX6_digit_19 : decode cX6_digit 19 = .ok (.iadd, 1) := by decide +kernel
theorem dX6_digit_20 : decode cX6_digit 20 = .ok (.putfield 133, 3) := by decide +kernel
theorem dX6_digit_23 : decode cX6_digit 23 = .ok (.aload_n 0, 1) := by decide +kernel
theorem dX6_digit_24 : decode cX6_digit 24 = .ok (.getfield 13, 3) := by decide +kernel
theorem dX6_digit_27 : decode cX6_digit 27 = .ok (.aload_n 0, 1) := by decide +kernel
theorem dX6_digit_28 : decode cX6_digit 28 = .ok (.getfield 133, 3) := by decide +kernel
theorem dX6_digit_31 : decode cX6_digit 31 = .ok (.iconst 1, 1) := by decide +kernel
theorem dX6_digit_32 : decode cX6_digit 32 = .ok (.isub, 1) := by decide +kernel
theorem dX6_digit_33 : decode cX6_digit 33 = .ok (.iaload, 1) := by decide +kernel
theorem dX6_digit_34 : decode cX6_digit 34 = .ok (.bipush 48, 2) := by decide +kernel
theorem dX6_digit_36 : decode cX6_digit 36 = .ok (.isub, 1) := by decide +kernel
theorem dX6_digit_37 : decode cX6_digit 37 = .ok (.ireturn, 1) := by decide +kernel
set_option maxRecDepth 20000 in
theorem ggX6_reads_X6_takes : GoodIn wsX6_reads wsX6_takes := goodIn_r _ [8, 9, 10, 11, 12, 7, 13, 14, 15, 16, 17, 18, 27, 28, 29, 30, 31, 32, 33, 34, 35, 36, 37, 38] (by decide +kernel) (by decide +kernel)
set_option maxRecDepth 20000 in
theorem gX6_reads_X6_takes : GoodIn wsX6_reads (wsV RX6 139 RX6 yX6_takes wsX6_takes) := goodIn_app (goodIn_of _ (by decide +kernel)) ggX6_reads_X6_takes
set_option maxRecDepth 20000 in
theorem ggX6_reads_X6_number : GoodIn wsX6_reads wsX6_number := goodIn_r _ [22, 15, 9, 10, 11, 12, 7, 13, 14, 16, 17, 18, 27, 28, 29, 30, 31, 32, 33, 34, 35, 36, 37, 38] (by decide +kernel) (by decide +kernel)
set_option maxRecDepth 20000 in
theorem gX6_reads_X6_number : GoodIn wsX6_reads (wsV RX6 146 RX6 yX6_number wsX6_number) := goodIn_app (goodIn_of _ (by decide +kernel)) ggX6_reads_X6_number
set_option maxRecDepth 20000 in
theorem ggX6_reads_X6_digit : GoodIn wsX6_reads wsX6_digit := goodIn_r _ [26, 9, 15, 10, 11, 12, 7, 13, 14, 16, 17, 18, 27, 28, 29, 30, 31, 32, 33, 34, 35, 36, 37, 38] (by decide +kernel) (by decide +kernel)
set_option maxRecDepth 20000 in
theorem gX6_reads_X6_digit : GoodIn wsX6_reads (wsV RX6 156 RX6 yX6_digit wsX6_digit) := goodIn_app (goodIn_of _ (by decide +kernel)) ggX6_reads_X6_digit
theorem dX6_reads_0 : decode cX6_reads 0 = .ok (.aload_n 0, 1) := by decide +kernel
theorem dX6_reads_1 : decode cX6_reads 1 = .ok (.bipush 99, 2) := by decide +kernel
theorem dX6_reads_3 : decode cX6_reads 3 = .ok (.invokevirtual 139, 3) := by decide +kernel
theorem dX6_reads_6 : decode cX6_reads 6 = .ok (.ifCond .eq 57, 3) := by decide +kernel
theorem dX6_reads_9 : decode cX6_reads 9 = .ok (.aload_n 0, 1) := by decide +kernel
theorem dX6_reads_10 : decode cX6_reads 10 = .ok (.iconst 0, 1) := by decide +kernel
theorem dX6_reads_11 : decode cX6_reads 11 = .ok (.putfield 143, 3) := by decide +kernel
theorem dX6_reads_14 : decode cX6_reads 14 = .ok (.aload_n 0, 1) := by decide +kernel
theorem dX6_reads_15 : decode cX6_reads 15 = .ok (.aload_n 0, 1) := by decide +kernel
theorem dX6_reads_16 : decode cX6_reads 16 = .ok (.invokevirtual 146, 3) := by decide +kernel
theorem dX6_reads_19 : decode cX6_reads 19 = .ok (.putfield 150, 3) := by decide +kernel
theorem dX6_reads_22 : decode cX6_reads 22 = .ok (.aload_n 0, 1) := by decide +kernel
theorem dX6_reads_23 : decode cX6_reads 23 = .ok (.getfield 150, 3) := by decide +kernel
theorem dX6_reads_26 : decode cX6_reads 26 = .ok (.iconst (-1), 1) := by decide +kernel
theorem dX6_reads_27 : decode cX6_reads 27 = .ok (.if_icmp .eq 12, 3) := by decide +kernel
theorem dX6_reads_30 : decode cX6_reads 30 = .ok (.aload_n 0, 1) := by decide +kernel
theorem dX6_reads_31 : decode cX6_reads 31 = .ok (.bipush 45, 2) := by decide +kernel
theorem dX6_reads_33 : decode cX6_reads 33 = .ok (.invokevirtual 139, 3) := by decide +kernel
theorem dX6_reads_36 : decode cX6_reads 36 = .ok (.ifCond .ne 5, 3) := by decide +kernel
theorem dX6_reads_39 : decode cX6_reads 39 = .ok (.iconst 0, 1) := by decide +kernel
theorem dX6_reads_40 : decode cX6_reads 40 = .ok (.ireturn, 1) := by decide +kernel
theorem dX6_reads_41 : decode cX6_reads 41 = .ok (.aload_n 0, 1) := by decide +kernel
theorem dX6_reads_42 : decode cX6_reads 42 = .ok (.aload_n 0, 1) := by decide +kernel
theorem dX6_reads_43 : decode cX6_reads 43 = .ok (.invokevirtual 146, 3) := by decide +kernel
theorem dX6_reads_46 : decode cX6_reads 46 = .ok (.putfield 153, 3) := by decide +kernel
theorem dX6_reads_49 : decode cX6_reads 49 = .ok (.aload_n 0, 1) := by decide +kernel
theorem dX6_reads_50 : decode cX6_reads 50 = .ok (.getfield 153, 3) := by decide +kernel
theorem dX6_reads_53 : decode cX6_reads 53 = .ok (.iconst (-1), 1) := by decide +kernel
theorem dX6_reads_54 : decode cX6_reads 54 = .ok (.if_icmp .eq 7, 3) := by decide +kernel
theorem dX6_reads_57 : decode cX6_reads 57 = .ok (.iconst 1, 1) := by decide +kernel
theorem dX6_reads_58 : decode cX6_reads 58 = .ok (.goto 4, 3) := by decide +kernel
theorem dX6_reads_61 : decode cX6_reads 61 = .ok (.iconst 0, 1) := by decide +kernel
theorem dX6_reads_62 : decode cX6_reads 62 = .ok (.ireturn, 1) := by decide +kernel
theorem dX6_reads_63 : decode cX6_reads 63 = .ok (.aload_n 0, 1) := by decide +kernel
theorem dX6_reads_64 : decode cX6_reads 64 = .ok (.bipush 100, 2) := by decide +kernel
theorem dX6_reads_66 : decode cX6_reads 66 = .ok (.invokevirtual 139, 3) := by decide +kernel
theorem dX6_reads_69 : decode cX6_reads 69 = .ok (.ifCond .eq 30, 3) := by decide +kernel
theorem dX6_reads_72 : decode cX6_reads 72 = .ok (.aload_n 0, 1) := by decide +kernel
theorem dX6_reads_73 : decode cX6_reads 73 = .ok (.iconst 1, 1) := by decide +kernel
theorem dX6_reads_74 : decode cX6_reads 74 = .ok (.putfield 143, 3) := by decide +kernel
theorem dX6_reads_77 : decode cX6_reads 77 = .ok (.aload_n 0, 1) := by decide +kernel
theorem dX6_reads_78 : decode cX6_reads 78 = .ok (.aload_n 0, 1) := by decide +kernel
theorem dX6_reads_79 : decode cX6_reads 79 = .ok (.invokevirtual 146, 3) := by decide +kernel
theorem dX6_reads_82 : decode cX6_reads 82 = .ok (.putfield 150, 3) := by decide +kernel
theorem dX6_reads_85 : decode cX6_reads 85 = .ok (.aload_n 0, 1) := by decide +kernel
theorem dX6_reads_86 : decode cX6_reads 86 = .ok (.getfield 150, 3) := by decide +kernel
theorem dX6_reads_89 : decode cX6_reads 89 = .ok (.iconst (-1), 1) := by decide +kernel
theorem dX6_reads_90 : decode cX6_reads 90 = .ok (.if_icmp .eq 7, 3) := by decide +kernel
theorem dX6_reads_93 : decode cX6_reads 93 = .ok (.iconst 1, 1) := by decide +kernel
theorem dX6_reads_94 : decode cX6_reads 94 = .ok (.goto 4, 3) := by decide +kernel
theorem dX6_reads_97 : decode cX6_reads 97 = .ok (.iconst 0, 1) := by decide +kernel
theorem dX6_reads_98 : decode cX6_reads 98 = .ok (.ireturn, 1) := by decide +kernel
theorem dX6_reads_99 : decode cX6_reads 99 = .ok (.aload_n 0, 1) := by decide +kernel
theorem dX6_reads_100 : decode cX6_reads 100 = .ok (.aload_n 0, 1) := by decide +kernel
theorem dX6_reads_101 : decode cX6_reads 101 = .ok (.bipush 111, 2) := by decide +kernel
theorem dX6_reads_103 : decode cX6_reads 103 = .ok (.invokevirtual 139, 3) := by decide +kernel
theorem dX6_reads_106 : decode cX6_reads 106 = .ok (.ifCond .eq 7, 3) := by decide +kernel
theorem dX6_reads_109 : decode cX6_reads 109 = .ok (.iconst 2, 1) := by decide +kernel
theorem dX6_reads_110 : decode cX6_reads 110 = .ok (.goto 30, 3) := by decide +kernel
theorem dX6_reads_113 : decode cX6_reads 113 = .ok (.aload_n 0, 1) := by decide +kernel
theorem dX6_reads_114 : decode cX6_reads 114 = .ok (.bipush 105, 2) := by decide +kernel
theorem dX6_reads_116 : decode cX6_reads 116 = .ok (.invokevirtual 139, 3) := by decide +kernel
theorem dX6_reads_119 : decode cX6_reads 119 = .ok (.ifCond .eq 7, 3) := by decide +kernel
theorem dX6_reads_122 : decode cX6_reads 122 = .ok (.iconst 3, 1) := by decide +kernel
theorem dX6_reads_123 : decode cX6_reads 123 = .ok (.goto 17, 3) := by decide +kernel
theorem dX6_reads_126 : decode cX6_reads 126 = .ok (.aload_n 0, 1) := by decide +kernel
theorem dX6_reads_127 : decode cX6_reads 127 = .ok (.bipush 112, 2) := by decide +kernel
theorem dX6_reads_129 : decode cX6_reads 129 = .ok (.invokevirtual 139, 3) := by decide +kernel
theorem dX6_reads_132 : decode cX6_reads 132 = .ok (.ifCond .eq 7, 3) := by decide +kernel
theorem dX6_reads_135 : decode cX6_reads 135 = .ok (.iconst 4, 1) := by decide +kernel
theorem dX6_reads_136 : decode cX6_reads 136 = .ok (.goto 4, 3) := by decide +kernel
theorem dX6_reads_139 : decode cX6_reads 139 = .ok (.iconst (-1), 1) := by decide +kernel
theorem dX6_reads_140 : decode cX6_reads 140 = .ok (.putfield 143, 3) := by decide +kernel
theorem dX6_reads_143 : decode cX6_reads 143 = .ok (.aload_n 0, 1) := by decide +kernel
theorem dX6_reads_144 : decode cX6_reads 144 = .ok (.aload_n 0, 1) := by decide +kernel
theorem dX6_reads_145 : decode cX6_reads 145 = .ok (.getfield 143, 3) := by decide +kernel
theorem dX6_reads_148 : decode cX6_reads 148 = .ok (.iconst 2, 1) := by decide +kernel
theorem dX6_reads_149 : decode cX6_reads 149 = .ok (.if_icmp .eq 11, 3) := by decide +kernel
theorem dX6_reads_152 : decode cX6_reads 152 = .ok (.aload_n 0, 1) := by decide +kernel
theorem dX6_reads_153 : decode cX6_reads 153 = .ok (.getfield 143, 3) := by decide +kernel
theorem dX6_reads_156 : decode cX6_reads 156 = .ok (.iconst 3, 1) := by decide +kernel
theorem dX6_reads_157 : decode cX6_reads 157 = .ok (.if_icmp .ne 10, 3) := by decide +kernel
theorem dX6_reads_160 : decode cX6_reads 160 = .ok (.aload_n 0, 1) := by decide +kernel
theorem dX6_reads_161 : decode cX6_reads 161 = .ok (.invokevirtual 156, 3) := by decide +kernel
theorem dX6_reads_164 : decode cX6_reads 164 = .ok (.goto 4, 3) := by decide +kernel
theorem dX6_reads_167 : decode cX6_reads 167 = .ok (.iconst 0, 1) := by decide +kernel
theorem dX6_reads_168 : decode cX6_reads 168 = .ok (.putfield 150, 3) := by decide +kernel
theorem dX6_reads_171 : decode cX6_reads 171 = .ok (.aload_n 0, 1) := by decide +kernel
theorem dX6_reads_172 : decode cX6_reads 172 = .ok (.getfield 143, 3) := by decide +kernel
theorem dX6_reads_175 : decode cX6_reads 175 = .ok (.iconst (-1), 1) := by decide +kernel
theorem dX6_reads_176 : decode cX6_reads 176 = .ok (.if_icmp .eq 15, 3) := by decide +kernel
theorem dX6_reads_179 : decode cX6_reads 179 = .ok (.aload_n 0, 1) := by decide +kernel
theorem dX6_reads_180 : decode cX6_reads 180 = .ok (.getfield 150, 3) := by decide +kernel
theorem dX6_reads_183 : decode cX6_reads 183 = .ok (.iconst (-1), 1) := by decide +kernel
theorem dX6_reads_184 : decode cX6_reads 184 = .ok (.if_icmp .eq 7, 3) := by decide +kernel
theorem dX6_reads_187 : decode cX6_reads 187 = .ok (.iconst 1, 1) := by decide +kernel
theorem dX6_reads_188 : decode cX6_reads 188 = .ok (.goto 4, 3) := by decide +kernel
theorem dX6_reads_191 : decode cX6_reads 191 = .ok (.iconst 0, 1) := by decide +kernel
theorem dX6_reads_192 : decode cX6_reads 192 = .ok (.ireturn, 1) := by decide +kernel
set_option maxRecDepth 20000 in
theorem ggX6_fault_X6_reads : GoodIn wsX6_fault wsX6_reads := goodIn_r _ [7, 8, 9, 10, 11, 12, 13, 6, 14, 1, 15, 16, 17, 18, 2, 19, 20, 21, 22, 23, 24, 25, 26, 27, 28, 29, 30, 31, 32, 33, 34, 35, 36, 37, 38, 39, 40, 41, 42] (by decide +kernel) (by decide +kernel)
set_option maxRecDepth 20000 in
theorem gX6_fault_X6_reads : GoodIn wsX6_fault (wsV RX6 159 RX6 yX6_reads wsX6_reads) := goodIn_app (goodIn_of _ (by decide +kernel)) ggX6_fault_X6_reads
set_option maxRecDepth 20000 in
theorem ggX6_fault_X6_takes : GoodIn wsX6_fault wsX6_takes := goodIn_r _ [14, 1, 15, 16, 17, 6, 18, 2, 19, 20, 21, 22, 31, 32, 33, 34, 35, 36, 37, 38, 39, 40, 41, 42] (by decide +kernel) (by decide +kernel)
set_option maxRecDepth 20000 in
theorem gX6_fault_X6_takes : GoodIn wsX6_fault (wsV RX6 139 RX6 yX6_takes wsX6_takes) := goodIn_app (goodIn_of _ (by decide +kernel)) ggX6_fault_X6_takes
theorem dX6_fault_0 : decode cX6_fault 0 = .ok (.aload_n 0, 1) := by decide +kernel
theorem dX6_fault_1 : decode cX6_fault 1 = .ok (.iconst 0, 1) := by decide +kernel
theorem dX6_fault_2 : decode cX6_fault 2 = .ok (.putfield 133, 3) := by decide +kernel
theorem dX6_fault_5 : decode cX6_fault 5 = .ok (.aload_n 0, 1) := by decide +kernel
theorem dX6_fault_6 : decode cX6_fault 6 = .ok (.invokevirtual 159, 3) := by decide +kernel
theorem dX6_fault_9 : decode cX6_fault 9 = .ok (.ifCond .eq 30, 3) := by decide +kernel
theorem dX6_fault_12 : decode cX6_fault 12 = .ok (.aload_n 0, 1) := by decide +kernel
theorem dX6_fault_13 : decode cX6_fault 13 = .ok (.getfield 133, 3) := by decide +kernel
theorem dX6_fault_16 : decode cX6_fault 16 = .ok (.aload_n 0, 1) := by decide +kernel
theorem dX6_fault_17 : decode cX6_fault 17 = .ok (.getfield 130, 3) := by decide +kernel
theorem dX6_fault_20 : decode cX6_fault 20 = .ok (.if_icmp .ne 5, 3) := by decide +kernel
theorem dX6_fault_23 : decode cX6_fault 23 = .ok (.iconst (-1), 1) := by decide +kernel
theorem dX6_fault_24 : decode cX6_fault 24 = .ok (.ireturn, 1) := by decide +kernel
theorem dX6_fault_25 : decode cX6_fault 25 = .ok (.aload_n 0, 1) := by decide +kernel
theorem dX6_fault_26 : decode cX6_fault 26 = .ok (.bipush 59, 2) := by decide +kernel
theorem dX6_fault_28 : decode cX6_fault 28 = .ok (.invokevirtual 139, 3) := by decide +kernel
theorem dX6_fault_31 : decode cX6_fault 31 = .ok (.ifCond .ne (-26), 3) := by decide +kernel
theorem dX6_fault_34 : decode cX6_fault 34 = .ok (.aload_n 0, 1) := by decide +kernel
theorem dX6_fault_35 : decode cX6_fault 35 = .ok (.getfield 133, 3) := by decide +kernel
theorem dX6_fault_38 : decode cX6_fault 38 = .ok (.ireturn, 1) := by decide +kernel
theorem dX6_fault_39 : decode cX6_fault 39 = .ok (.aload_n 0, 1) := by decide +kernel
theorem dX6_fault_40 : decode cX6_fault 40 = .ok (.getfield 133, 3) := by decide +kernel
theorem dX6_fault_43 : decode cX6_fault 43 = .ok (.ireturn, 1) := by decide +kernel
set_option maxRecDepth 20000 in
theorem ggX6_carries_X6_connects : GoodIn wsX6_carries wsX6_connects := goodIn_r _ [8, 9, 10, 11, 12, 7, 13, 14, 15, 16, 17, 18, 19, 20, 21, 22, 23, 24, 25, 26, 27, 28, 29, 30, 31, 32, 33, 34, 35, 36, 37, 38, 39, 40, 41, 42, 43, 44, 45, 46, 47, 48, 49, 50, 51, 52, 53, 54, 55, 56, 57, 58, 59, 60, 61, 62, 63, 64, 65, 66, 67, 68, 69, 70, 71, 72, 73, 74, 75, 76, 113, 114, 115, 116, 117, 118, 119, 120, 121, 122, 123, 124] (by decide +kernel) (by decide +kernel)
set_option maxRecDepth 20000 in
theorem gX6_carries_X6_connects : GoodIn wsX6_carries (wsV RX6 115 RX6 yX6_connects wsX6_connects) := goodIn_app (goodIn_of _ (by decide +kernel)) ggX6_carries_X6_connects
set_option maxRecDepth 20000 in
theorem ggX6_carries_X6_disconnects : GoodIn wsX6_carries wsX6_disconnects := goodIn_r _ [80, 9, 10, 11, 12, 7, 13, 14, 15, 16, 17, 18, 19, 20, 21, 22, 23, 24, 29, 30, 31, 32, 113, 114, 115, 116, 117, 118, 119, 120, 121, 122, 123, 124] (by decide +kernel) (by decide +kernel)
set_option maxRecDepth 20000 in
theorem gX6_carries_X6_disconnects : GoodIn wsX6_carries (wsV RX6 118 RX6 yX6_disconnects wsX6_disconnects) := goodIn_app (goodIn_of _ (by decide +kernel)) ggX6_carries_X6_disconnects
set_option maxRecDepth 20000 in
theorem ggX6_carries_X6_takesOut : GoodIn wsX6_carries wsX6_takesOut := goodIn_r _ [84, 9, 85, 86, 87, 7, 88, 18, 19, 20, 43, 44, 45, 14, 15, 16, 17, 21, 22, 23, 24, 29, 30, 31, 32, 89, 90, 91, 92, 33, 34, 35, 36, 37, 38, 39, 40, 41, 42, 46, 47, 48, 49, 50, 51, 52, 53, 54, 55, 56, 57, 58, 59, 60, 61, 62, 63, 64, 65, 66, 67, 68, 69, 70, 71, 72, 73, 74, 75, 76, 113, 114, 115, 116, 117, 118, 119, 120, 121, 122, 123, 124] (by decide +kernel) (by decide +kernel)
set_option maxRecDepth 20000 in
theorem gX6_carries_X6_takesOut : GoodIn wsX6_carries (wsV RX6 121 RX6 yX6_takesOut wsX6_takesOut) := goodIn_app (goodIn_of _ (by decide +kernel)) ggX6_carries_X6_takesOut
set_option maxRecDepth 20000 in
theorem ggX6_carries_X6_putsBack : GoodIn wsX6_carries wsX6_putsBack := goodIn_r _ [96, 9, 85, 86, 87, 7, 88, 18, 19, 20, 43, 44, 45, 97, 98, 99, 113, 114, 115, 116, 117, 118, 119, 120, 121, 122, 123, 124] (by decide +kernel) (by decide +kernel)
set_option maxRecDepth 20000 in
theorem gX6_carries_X6_putsBack : GoodIn wsX6_carries (wsV RX6 124 RX6 yX6_putsBack wsX6_putsBack) := goodIn_app (goodIn_of _ (by decide +kernel)) ggX6_carries_X6_putsBack
set_option maxRecDepth 20000 in
theorem ggX6_carries_X6_packs : GoodIn wsX6_carries wsX6_packs := goodIn_r _ [103, 9, 104, 105, 106, 107, 7, 108, 14, 15, 16, 17, 21, 22, 23, 24, 109, 110, 111, 112, 43, 44, 45, 97, 98, 99, 29, 30, 31, 32, 89, 90, 91, 92, 33, 34, 35, 36, 37, 38, 39, 40, 41, 42, 46, 47, 48, 49, 50, 51, 52, 53, 54, 55, 56, 57, 58, 59, 60, 61, 62, 63, 64, 65, 66, 67, 68, 69, 70, 71, 72, 73, 74, 75, 76, 113, 114, 115, 116, 117, 118, 119, 120, 121, 122, 123, 124] (by decide +kernel) (by decide +kernel)
set_option maxRecDepth 20000 in
theorem gX6_carries_X6_packs : GoodIn wsX6_carries (wsV RX6 127 RX6 yX6_packs wsX6_packs) := goodIn_app (goodIn_of _ (by decide +kernel)) ggX6_carries_X6_packs
theorem dX6_carries_0 : decode cX6_carries 0 = .ok (.aload_n 0, 1) := by decide +kernel
theorem dX6_carries_1 : decode cX6_carries 1 = .ok (.getfield 143, 3) := by decide +kernel
theorem dX6_carries_4 : decode cX6_carries 4 = .ok (.tableswitch 84 0 3 #[32, 48, 60, 72], 32) := by decide +kernel
theorem dX6_carries_36 : decode cX6_carries 36 = .ok (.aload_n 0, 1) := by decide +kernel
theorem dX6_carries_37 : decode cX6_carries 37 = .ok (.sipush 924, 3) := by decide +kernel
theorem dX6_carries_40 : decode cX6_carries 40 = .ok (.aload_n 0, 1) := by decide +kernel
theorem dX6_carries_41 : decode cX6_carries 41 = .ok (.getfield 150, 3) := by decide +kernel
theorem dX6_carries_44 : decode cX6_carries 44 = .ok (.aload_n 0, 1) := by decide +kernel
theorem dX6_carries_45 : decode cX6_carries 45 = .ok (.getfield 153, 3) := by decide +kernel
theorem dX6_carries_48 : decode cX6_carries 48 = .ok (.invokevirtual 115, 3) := by decide +kernel
theorem dX6_carries_51 : decode cX6_carries 51 = .ok (.ireturn, 1) := by decide +kernel
theorem dX6_carries_52 : decode cX6_carries 52 = .ok (.aload_n 0, 1) := by decide +kernel
theorem dX6_carries_53 : decode cX6_carries 53 = .ok (.sipush 924, 3) := by decide +kernel
theorem dX6_carries_56 : decode cX6_carries 56 = .ok (.aload_n 0, 1) := by decide +kernel
theorem dX6_carries_57 : decode cX6_carries 57 = .ok (.getfield 150, 3) := by decide +kernel
theorem dX6_carries_60 : decode cX6_carries 60 = .ok (.invokevirtual 118, 3) := by decide +kernel
theorem dX6_carries_63 : decode cX6_carries 63 = .ok (.ireturn, 1) := by decide +kernel
theorem dX6_carries_64 : decode cX6_carries 64 = .ok (.aload_n 0, 1) := by decide +kernel
theorem dX6_carries_65 : decode cX6_carries 65 = .ok (.sipush 924, 3) := by decide +kernel
theorem dX6_carries_68 : decode cX6_carries 68 = .ok (.aload_n 0, 1) := by decide +kernel
theorem dX6_carries_69 : decode cX6_carries 69 = .ok (.getfield 150, 3) := by decide +kernel
theorem dX6_carries_72 : decode cX6_carries 72 = .ok (.invokevirtual 121, 3) := by decide +kernel
theorem dX6_carries_75 : decode cX6_carries 75 = .ok (.ireturn, 1) := by decide +kernel
theorem dX6_carries_76 : decode cX6_carries 76 = .ok (.aload_n 0, 1) := by decide +kernel
theorem dX6_carries_77 : decode cX6_carries 77 = .ok (.sipush 924, 3) := by decide +kernel
theorem dX6_carries_80 : decode cX6_carries 80 = .ok (.aload_n 0, 1) := by decide +kernel
theorem dX6_carries_81 : decode cX6_carries 81 = .ok (.getfield 150, 3) := by decide +kernel
theorem dX6_carries_84 : decode cX6_carries 84 = .ok (.invokevirtual 124, 3) := by decide +kernel
theorem dX6_carries_87 : decode cX6_carries 87 = .ok (.ireturn, 1) := by decide +kernel
theorem dX6_carries_88 : decode cX6_carries 88 = .ok (.aload_n 0, 1) := by decide +kernel
theorem dX6_carries_89 : decode cX6_carries 89 = .ok (.sipush 924, 3) := by decide +kernel
theorem dX6_carries_92 : decode cX6_carries 92 = .ok (.invokevirtual 127, 3) := by decide +kernel
theorem dX6_carries_95 : decode cX6_carries 95 = .ok (.ireturn, 1) := by decide +kernel
set_option maxRecDepth 20000 in
theorem ggX6_perform_X6_fault : GoodIn wsX6_perform wsX6_fault := goodIn_r _ [6, 1, 7, 8, 9, 10, 5, 11, 12, 13, 14, 15, 16, 17, 18, 19, 20, 21, 22, 23, 24, 25, 26, 27, 28, 29, 30, 31, 32, 33, 34, 153, 154, 155, 156, 157, 158, 159, 160, 161, 162, 163, 164] (by decide +kernel) (by decide +kernel)
set_option maxRecDepth 20000 in
theorem gX6_perform_X6_fault : GoodIn wsX6_perform (wsV RX6 163 RX6 yX6_fault wsX6_fault) := goodIn_app (goodIn_of _ (by decide +kernel)) ggX6_perform_X6_fault
set_option maxRecDepth 20000 in
theorem ggX6_perform_X6_copies : GoodIn wsX6_perform wsX6_copies := goodIn_r _ [38, 39, 153, 154, 155, 156, 157, 158, 159, 160, 161, 162, 163, 164] (by decide +kernel) (by decide +kernel)
set_option maxRecDepth 20000 in
theorem gX6_perform_X6_copies : GoodIn wsX6_perform (wsV RX6 105 RX6 yX6_copies wsX6_copies) := goodIn_app (goodIn_of _ (by decide +kernel)) ggX6_perform_X6_copies
set_option maxRecDepth 20000 in
theorem ggX6_perform_X6_reads : GoodIn wsX6_perform wsX6_reads := goodIn_r _ [11, 12, 13, 14, 15, 16, 17, 5, 18, 1, 19, 20, 21, 22, 7, 23, 24, 25, 26, 27, 28, 29, 30, 31, 32, 33, 34, 153, 154, 155, 156, 157, 158, 159, 160, 161, 162, 163, 164] (by decide +kernel) (by decide +kernel)
set_option maxRecDepth 20000 in
theorem gX6_perform_X6_reads : GoodIn wsX6_perform (wsV RX6 159 RX6 yX6_reads wsX6_reads) := goodIn_app (goodIn_of _ (by decide +kernel)) ggX6_perform_X6_reads
set_option maxRecDepth 20000 in
theorem ggX6_perform_X6_carries : GoodIn wsX6_perform wsX6_carries := goodIn_r _ [43, 12, 13, 14, 44, 45, 46, 5, 47, 39, 48, 49, 50, 51, 52, 53, 54, 55, 24, 25, 26, 56, 57, 58, 59, 60, 61, 62, 63, 64, 65, 66, 67, 68, 69, 70, 71, 72, 73, 74, 75, 76, 77, 78, 79, 80, 81, 82, 83, 84, 85, 86, 87, 88, 89, 90, 91, 92, 93, 94, 95, 96, 97, 98, 99, 100, 101, 102, 103, 104, 105, 106, 107, 108, 109, 110, 111, 112, 113, 114, 115, 116, 117, 118, 119, 120, 121, 122, 123, 124, 125, 126, 127, 128, 129, 130, 131, 132, 133, 134, 135, 136, 137, 138, 139, 140, 141, 142, 143, 144, 145, 146, 147, 153, 154, 155, 156, 157, 158, 159, 160, 161, 162, 163, 164] (by decide +kernel) (by decide +kernel)
set_option maxRecDepth 20000 in
theorem gX6_perform_X6_carries : GoodIn wsX6_perform (wsV RX6 166 RX6 yX6_carries wsX6_carries) := goodIn_app (goodIn_of _ (by decide +kernel)) ggX6_perform_X6_carries
set_option maxRecDepth 20000 in
theorem ggX6_perform_X6_takes : GoodIn wsX6_perform wsX6_takes := goodIn_r _ [18, 1, 19, 20, 21, 5, 22, 7, 23, 24, 25, 26, 153, 154, 155, 156, 157, 158, 159, 160, 161, 162, 163, 164] (by decide +kernel) (by decide +kernel)
set_option maxRecDepth 20000 in
theorem gX6_perform_X6_takes : GoodIn wsX6_perform (wsV RX6 139 RX6 yX6_takes wsX6_takes) := goodIn_app (goodIn_of _ (by decide +kernel)) ggX6_perform_X6_takes
set_option maxRecDepth 20000 in
theorem ggX6_perform_X6_accepts : GoodIn wsX6_perform wsX6_accepts := goodIn_r _ [151, 152, 35, 36, 37, 5, 38, 39, 153, 154, 155, 156, 157, 158, 159, 160, 161, 162, 163, 164] (by decide +kernel) (by decide +kernel)
set_option maxRecDepth 20000 in
theorem gX6_perform_X6_accepts : GoodIn wsX6_perform (wsV RX6 109 RX6 yX6_accepts wsX6_accepts) := goodIn_app (goodIn_of _ (by decide +kernel)) ggX6_perform_X6_accepts
theorem dX6_perform_0 : decode cX6_perform 0 = .ok (.aload_n 0, 1) := by decide +kernel
theorem dX6_perform_1 : decode cX6_perform 1 = .ok (.invokevirtual 163, 3) := by decide +kernel
theorem dX6_perform_4 : decode cX6_perform 4 = .ok (.istore_n 1, 1) := by decide +kernel
theorem dX6_perform_5 : decode cX6_perform 5 = .ok (.iload_n 1, 1) := by decide +kernel
theorem dX6_perform_6 : decode cX6_perform 6 = .ok (.iconst (-1), 1) := by decide +kernel
theorem dX6_perform_7 : decode cX6_perform 7 = .ok (.if_icmp .eq 8, 3) := by decide +kernel
theorem dX6_perform_10 : decode cX6_perform 10 = .ok (.bipush (-100), 2) := by decide +kernel
theorem dX6_perform_12 : decode cX6_perform 12 = .ok (.iload_n 1, 1) := by decide +kernel
theorem dX6_perform_13 : decode cX6_perform 13 = .ok (.isub, 1) := by decide +kernel
theorem dX6_perform_14 : decode cX6_perform 14 = .ok (.ireturn, 1) := by decide +kernel
theorem dX6_perform_15 : decode cX6_perform 15 = .ok (.aload_n 0, 1) := by decide +kernel
theorem dX6_perform_16 : decode cX6_perform 16 = .ok (.iconst 0, 1) := by decide +kernel
theorem dX6_perform_17 : decode cX6_perform 17 = .ok (.bipush 6, 2) := by decide +kernel
theorem dX6_perform_19 : decode cX6_perform 19 = .ok (.invokevirtual 105, 3) := by decide +kernel
theorem dX6_perform_22 : decode cX6_perform 22 = .ok (.aload_n 0, 1) := by decide +kernel
theorem dX6_perform_23 : decode cX6_perform 23 = .ok (.iconst 0, 1) := by decide +kernel
theorem dX6_perform_24 : decode cX6_perform 24 = .ok (.putfield 133, 3) := by decide +kernel
theorem dX6_perform_27 : decode cX6_perform 27 = .ok (.iconst 0, 1) := by decide +kernel
theorem dX6_perform_28 : decode cX6_perform 28 = .ok (.istore_n 2, 1) := by decide +kernel
theorem dX6_perform_29 : decode cX6_perform 29 = .ok (.aload_n 0, 1) := by decide +kernel
theorem dX6_perform_30 : decode cX6_perform 30 = .ok (.invokevirtual 159, 3) := by decide +kernel
theorem dX6_perform_33 : decode cX6_perform 33 = .ok (.istore_n 3, 1) := by decide +kernel
theorem dX6_perform_34 : decode cX6_perform 34 = .ok (.iload_n 3, 1) := by decide +kernel
theorem dX6_perform_35 : decode cX6_perform 35 = .ok (.ifCond .eq 52, 3) := by decide +kernel
theorem dX6_perform_38 : decode cX6_perform 38 = .ok (.aload_n 0, 1) := by decide +kernel
theorem dX6_perform_39 : decode cX6_perform 39 = .ok (.invokevirtual 166, 3) := by decide +kernel
theorem dX6_perform_42 : decode cX6_perform 42 = .ok (.istore 4, 2) := by decide +kernel
theorem dX6_perform_44 : decode cX6_perform 44 = .ok (.iload 4, 2) := by decide +kernel
theorem dX6_perform_46 : decode cX6_perform 46 = .ok (.ifCond .ge 13, 3) := by decide +kernel
theorem dX6_perform_49 : decode cX6_perform 49 = .ok (.iload 4, 2) := by decide +kernel
theorem dX6_perform_51 : decode cX6_perform 51 = .ok (.bipush (-6), 2) := by decide +kernel
theorem dX6_perform_53 : decode cX6_perform 53 = .ok (.if_icmp .eq 6, 3) := by decide +kernel
theorem dX6_perform_56 : decode cX6_perform 56 = .ok (.iload 4, 2) := by decide +kernel
theorem dX6_perform_58 : decode cX6_perform 58 = .ok (.ireturn, 1) := by decide +kernel
theorem dX6_perform_59 : decode cX6_perform 59 = .ok (.iinc 2 1, 3) := by decide +kernel
theorem dX6_perform_62 : decode cX6_perform 62 = .ok (.aload_n 0, 1) := by decide +kernel
theorem dX6_perform_63 : decode cX6_perform 63 = .ok (.bipush 59, 2) := by decide +kernel
theorem dX6_perform_65 : decode cX6_perform 65 = .ok (.invokevirtual 139, 3) := by decide +kernel
theorem dX6_perform_68 : decode cX6_perform 68 = .ok (.ifCond .eq 14, 3) := by decide +kernel
theorem dX6_perform_71 : decode cX6_perform 71 = .ok (.aload_n 0, 1) := by decide +kernel
theorem dX6_perform_72 : decode cX6_perform 72 = .ok (.invokevirtual 159, 3) := by decide +kernel
theorem dX6_perform_75 : decode cX6_perform 75 = .ok (.ifCond .eq 7, 3) := by decide +kernel
theorem dX6_perform_78 : decode cX6_perform 78 = .ok (.iconst 1, 1) := by decide +kernel
theorem dX6_perform_79 : decode cX6_perform 79 = .ok (.goto 4, 3) := by decide +kernel
theorem dX6_perform_82 : decode cX6_perform 82 = .ok (.iconst 0, 1) := by decide +kernel
theorem dX6_perform_83 : decode cX6_perform 83 = .ok (.istore_n 3, 1) := by decide +kernel
theorem dX6_perform_84 : decode cX6_perform 84 = .ok (.goto (-50), 3) := by decide +kernel
theorem dX6_perform_87 : decode cX6_perform 87 = .ok (.aload_n 0, 1) := by decide +kernel
theorem dX6_perform_88 : decode cX6_perform 88 = .ok (.iload_n 2, 1) := by decide +kernel
theorem dX6_perform_89 : decode cX6_perform 89 = .ok (.invokevirtual 109, 3) := by decide +kernel
theorem dX6_perform_92 : decode cX6_perform 92 = .ok (.ireturn, 1) := by decide +kernel
set_option maxRecDepth 20000 in
theorem ggX6_undo_X6_copies : GoodIn wsX6_undo wsX6_copies := goodIn_r _ [6, 7, 8, 9, 10, 11, 12, 13, 14, 15, 16, 17, 18, 19] (by decide +kernel) (by decide +kernel)
set_option maxRecDepth 20000 in
theorem gX6_undo_X6_copies : GoodIn wsX6_undo (wsV RX6 105 RX6 yX6_copies wsX6_copies) := goodIn_app (goodIn_of _ (by decide +kernel)) ggX6_undo_X6_copies
theorem dX6_undo_0 : decode cX6_undo 0 = .ok (.aload_n 0, 1) := by decide +kernel
theorem dX6_undo_1 : decode cX6_undo 1 = .ok (.getfield 102, 3) := by decide +kernel
theorem dX6_undo_4 : decode cX6_undo 4 = .ok (.ifCond .ne 6, 3) := by decide +kernel
theorem dX6_undo_7 : decode cX6_undo 7 = .ok (.bipush (-6), 2) := by decide +kernel
theorem dX6_undo_9 : decode cX6_undo 9 = .ok (.ireturn, 1) := by decide +kernel
theorem dX6_undo_10 : decode cX6_undo 10 = .ok (.aload_n 0, 1) := by decide +kernel
theorem dX6_undo_11 : decode cX6_undo 11 = .ok (.aload_n 0, 1) := by decide +kernel
theorem dX6_undo_12 : decode cX6_undo 12 = .ok (.getfield 102, 3) := by decide +kernel
theorem dX6_undo_15 : decode cX6_undo 15 = .ok (.iconst 0, 1) := by decide +kernel
theorem dX6_undo_16 : decode cX6_undo 16 = .ok (.invokevirtual 105, 3) := by decide +kernel
theorem dX6_undo_19 : decode cX6_undo 19 = .ok (.aload_n 0, 1) := by decide +kernel
theorem dX6_undo_20 : decode cX6_undo 20 = .ok (.dup, 1) := by decide +kernel
theorem dX6_undo_21 : decode cX6_undo 21 = .ok (.getfield 102, 3) := by decide +kernel
theorem dX6_undo_24 : decode cX6_undo 24 = .ok (.iconst 1, 1) := by decide +kernel
theorem dX6_undo_25 : decode cX6_undo 25 = .ok (.isub, 1) := by decide +kernel
theorem dX6_undo_26 : decode cX6_undo 26 = .ok (.putfield 102, 3) := by decide +kernel
theorem dX6_undo_29 : decode cX6_undo 29 = .ok (.aload_n 0, 1) := by decide +kernel
theorem dX6_undo_30 : decode cX6_undo 30 = .ok (.getfield 102, 3) := by decide +kernel
theorem dX6_undo_33 : decode cX6_undo 33 = .ok (.ireturn, 1) := by decide +kernel
set_option maxRecDepth 20000 in
theorem ggX6_keep_X6_copies : GoodIn wsX6_keep wsX6_copies := goodIn_r _ [6, 7, 20, 21, 22, 23, 24, 25, 26, 27, 28, 29, 30, 31] (by decide +kernel) (by decide +kernel)
set_option maxRecDepth 20000 in
theorem gX6_keep_X6_copies : GoodIn wsX6_keep (wsV RX6 105 RX6 yX6_copies wsX6_copies) := goodIn_app (goodIn_of _ (by decide +kernel)) ggX6_keep_X6_copies
set_option maxRecDepth 20000 in
theorem ggX6_keep_X6_calls : GoodIn wsX6_keep wsX6_calls := goodIn_r _ [11, 12, 13, 14, 5, 15, 7, 16, 17, 18, 19, 20, 21, 22, 23, 24, 25, 26, 27, 28, 29, 30, 31] (by decide +kernel) (by decide +kernel)
set_option maxRecDepth 20000 in
theorem gX6_keep_X6_calls : GoodIn wsX6_keep (wsV RX6 96 RX6 yX6_calls wsX6_calls) := goodIn_app (goodIn_of _ (by decide +kernel)) ggX6_keep_X6_calls
theorem dX6_keep_0 : decode cX6_keep 0 = .ok (.aload_n 0, 1) := by decide +kernel
theorem dX6_keep_1 : decode cX6_keep 1 = .ok (.iconst 0, 1) := by decide +kernel
theorem dX6_keep_2 : decode cX6_keep 2 = .ok (.iconst 5, 1) := by decide +kernel
theorem dX6_keep_3 : decode cX6_keep 3 = .ok (.invokevirtual 105, 3) := by decide +kernel
theorem dX6_keep_6 : decode cX6_keep 6 = .ok (.aload_n 0, 1) := by decide +kernel
theorem dX6_keep_7 : decode cX6_keep 7 = .ok (.iconst 1, 1) := by decide +kernel
theorem dX6_keep_8 : decode cX6_keep 8 = .ok (.putfield 169, 3) := by decide +kernel
theorem dX6_keep_11 : decode cX6_keep 11 = .ok (.aload_n 0, 1) := by decide +kernel
theorem dX6_keep_12 : decode cX6_keep 12 = .ok (.iconst 0, 1) := by decide +kernel
theorem dX6_keep_13 : decode cX6_keep 13 = .ok (.invokevirtual 96, 3) := by decide +kernel
theorem dX6_keep_16 : decode cX6_keep 16 = .ok (.ireturn, 1) := by decide +kernel
set_option maxRecDepth 20000 in
theorem ggX6_restore_X6_copies : GoodIn wsX6_restore wsX6_copies := goodIn_r _ [6, 7, 25, 26, 27, 28, 29, 30, 31, 32, 33, 34, 35, 36] (by decide +kernel) (by decide +kernel)
set_option maxRecDepth 20000 in
theorem gX6_restore_X6_copies : GoodIn wsX6_restore (wsV RX6 105 RX6 yX6_copies wsX6_copies) := goodIn_app (goodIn_of _ (by decide +kernel)) ggX6_restore_X6_copies
set_option maxRecDepth 20000 in
theorem ggX6_restore_X6_calls : GoodIn wsX6_restore wsX6_calls := goodIn_r _ [11, 12, 13, 14, 5, 15, 7, 16, 17, 18, 19, 25, 26, 27, 28, 29, 30, 31, 32, 33, 34, 35, 36] (by decide +kernel) (by decide +kernel)
set_option maxRecDepth 20000 in
theorem gX6_restore_X6_calls : GoodIn wsX6_restore (wsV RX6 96 RX6 yX6_calls wsX6_calls) := goodIn_app (goodIn_of _ (by decide +kernel)) ggX6_restore_X6_calls
set_option maxRecDepth 20000 in
theorem ggX6_restore_X6_accepts : GoodIn wsX6_restore wsX6_accepts := goodIn_r _ [23, 24, 2, 3, 4, 5, 6, 7, 25, 26, 27, 28, 29, 30, 31, 32, 33, 34, 35, 36] (by decide +kernel) (by decide +kernel)
set_option maxRecDepth 20000 in
theorem gX6_restore_X6_accepts : GoodIn wsX6_restore (wsV RX6 109 RX6 yX6_accepts wsX6_accepts) := goodIn_app (goodIn_of _ (by decide +kernel)) ggX6_restore_X6_accepts
theorem dX6_restore_0 : decode cX6_restore 0 = .ok (.aload_n 0, 1) := by decide +kernel
theorem dX6_restore_1 : decode cX6_restore 1 = .ok (.getfield 169, 3) := by decide +kernel
theorem dX6_restore_4 : decode cX6_restore 4 = .ok (.ifCond .ne 6, 3) := by decide +kernel
theorem dX6_restore_7 : decode cX6_restore 7 = .ok (.bipush (-6), 2) := by decide +kernel
theorem dX6_restore_9 : decode cX6_restore 9 = .ok (.ireturn, 1) := by decide +kernel
theorem dX6_restore_10 : decode cX6_restore 10 = .ok (.aload_n 0, 1) := by decide +kernel
theorem dX6_restore_11 : decode cX6_restore 11 = .ok (.iconst 5, 1) := by decide +kernel
theorem dX6_restore_12 : decode cX6_restore 12 = .ok (.bipush 6, 2) := by decide +kernel
theorem dX6_restore_14 : decode cX6_restore 14 = .ok (.invokevirtual 105, 3) := by decide +kernel
theorem dX6_restore_17 : decode cX6_restore 17 = .ok (.aload_n 0, 1) := by decide +kernel
theorem dX6_restore_18 : decode cX6_restore 18 = .ok (.aload_n 0, 1) := by decide +kernel
theorem dX6_restore_19 : decode cX6_restore 19 = .ok (.sipush 924, 3) := by decide +kernel
theorem dX6_restore_22 : decode cX6_restore 22 = .ok (.invokevirtual 96, 3) := by decide +kernel
theorem dX6_restore_25 : decode cX6_restore 25 = .ok (.invokevirtual 109, 3) := by decide +kernel
theorem dX6_restore_28 : decode cX6_restore 28 = .ok (.ireturn, 1) := by decide +kernel
set_option maxRecDepth 20000 in
theorem ggX6_callOfInlet_X6_isLine : GoodIn wsX6_callOfInlet wsX6_isLine := goodIn_r _ [5, 6, 7, 8, 4, 9, 10, 11, 12, 13, 18, 19, 20, 21, 22, 23, 24, 25, 26, 27, 28, 29] (by decide +kernel) (by decide +kernel)
set_option maxRecDepth 20000 in
theorem gX6_callOfInlet_X6_isLine : GoodIn wsX6_callOfInlet (wsV RX6 78 RX6 yX6_isLine wsX6_isLine) := goodIn_app (goodIn_of _ (by decide +kernel)) ggX6_callOfInlet_X6_isLine
set_option maxRecDepth 20000 in
theorem ggX6_callOfInlet_X6_of : GoodIn wsX6_callOfInlet wsX6_of := goodIn_r _ [17, 10, 18, 19, 20, 21, 22, 23, 24, 25, 26, 27, 28, 29] (by decide +kernel) (by decide +kernel)
set_option maxRecDepth 20000 in
theorem gX6_callOfInlet_X6_of : GoodIn wsX6_callOfInlet (wsV RX6 41 RX6 yX6_of wsX6_of) := goodIn_app (goodIn_of _ (by decide +kernel)) ggX6_callOfInlet_X6_of
theorem dX6_callOfInlet_0 : decode cX6_callOfInlet 0 = .ok (.aload_n 0, 1) := by decide +kernel
theorem dX6_callOfInlet_1 : decode cX6_callOfInlet 1 = .ok (.iconst 0, 1) := by decide +kernel
theorem dX6_callOfInlet_2 : decode cX6_callOfInlet 2 = .ok (.iload_n 1, 1) := by decide +kernel
theorem dX6_callOfInlet_3 : decode cX6_callOfInlet 3 = .ok (.invokevirtual 78, 3) := by decide +kernel
theorem dX6_callOfInlet_6 : decode cX6_callOfInlet 6 = .ok (.ifCond .ne 5, 3) := by decide +kernel
theorem dX6_callOfInlet_9 : decode cX6_callOfInlet 9 = .ok (.iconst (-1), 1) := by decide +kernel
theorem dX6_callOfInlet_10 : decode cX6_callOfInlet 10 = .ok (.ireturn, 1) := by decide +kernel
theorem dX6_callOfInlet_11 : decode cX6_callOfInlet 11 = .ok (.aload_n 0, 1) := by decide +kernel
theorem dX6_callOfInlet_12 : decode cX6_callOfInlet 12 = .ok (.iconst 0, 1) := by decide +kernel
theorem dX6_callOfInlet_13 : decode cX6_callOfInlet 13 = .ok (.iload_n 1, 1) := by decide +kernel
theorem dX6_callOfInlet_14 : decode cX6_callOfInlet 14 = .ok (.iconst 0, 1) := by decide +kernel
theorem dX6_callOfInlet_15 : decode cX6_callOfInlet 15 = .ok (.invokevirtual 41, 3) := by decide +kernel
theorem dX6_callOfInlet_18 : decode cX6_callOfInlet 18 = .ok (.iconst (-1), 1) := by decide +kernel
theorem dX6_callOfInlet_19 : decode cX6_callOfInlet 19 = .ok (.if_icmp .ne 8, 3) := by decide +kernel
theorem dX6_callOfInlet_22 : decode cX6_callOfInlet 22 = .ok (.bipush (-6), 2) := by decide +kernel
theorem dX6_callOfInlet_24 : decode cX6_callOfInlet 24 = .ok (.goto 10, 3) := by decide +kernel
theorem dX6_callOfInlet_27 : decode cX6_callOfInlet 27 = .ok (.aload_n 0, 1) := by decide +kernel
theorem dX6_callOfInlet_28 : decode cX6_callOfInlet 28 = .ok (.iconst 0, 1) := by decide +kernel
theorem dX6_callOfInlet_29 : decode cX6_callOfInlet 29 = .ok (.iload_n 1, 1) := by decide +kernel
theorem dX6_callOfInlet_30 : decode cX6_callOfInlet 30 = .ok (.iconst 0, 1) := by decide +kernel
theorem dX6_callOfInlet_31 : decode cX6_callOfInlet 31 = .ok (.invokevirtual 41, 3) := by decide +kernel
theorem dX6_callOfInlet_34 : decode cX6_callOfInlet 34 = .ok (.ireturn, 1) := by decide +kernel
set_option maxRecDepth 20000 in
theorem ggX6_callOfOutlet_X6_isLine : GoodIn wsX6_callOfOutlet wsX6_isLine := goodIn_r _ [5, 6, 7, 8, 4, 9, 10, 11, 12, 13, 22, 23, 24, 25, 26, 27, 28, 29, 30, 31, 32, 33] (by decide +kernel) (by decide +kernel)
set_option maxRecDepth 20000 in
theorem gX6_callOfOutlet_X6_isLine : GoodIn wsX6_callOfOutlet (wsV RX6 78 RX6 yX6_isLine wsX6_isLine) := goodIn_app (goodIn_of _ (by decide +kernel)) ggX6_callOfOutlet_X6_isLine
set_option maxRecDepth 20000 in
theorem ggX6_callOfOutlet_X6_inletTo : GoodIn wsX6_callOfOutlet wsX6_inletTo := goodIn_r _ [17, 6, 7, 8, 4, 9, 10, 18, 19, 20, 21, 22, 23, 24, 25, 26, 27, 28, 29, 30, 31, 32, 33] (by decide +kernel) (by decide +kernel)
set_option maxRecDepth 20000 in
theorem gX6_callOfOutlet_X6_inletTo : GoodIn wsX6_callOfOutlet (wsV RX6 81 RX6 yX6_inletTo wsX6_inletTo) := goodIn_app (goodIn_of _ (by decide +kernel)) ggX6_callOfOutlet_X6_inletTo
set_option maxRecDepth 20000 in
theorem ggX6_callOfOutlet_X6_of : GoodIn wsX6_callOfOutlet wsX6_of := goodIn_r _ [21, 10, 22, 23, 24, 25, 26, 27, 28, 29, 30, 31, 32, 33] (by decide +kernel) (by decide +kernel)
set_option maxRecDepth 20000 in
theorem gX6_callOfOutlet_X6_of : GoodIn wsX6_callOfOutlet (wsV RX6 41 RX6 yX6_of wsX6_of) := goodIn_app (goodIn_of _ (by decide +kernel)) ggX6_callOfOutlet_X6_of
theorem dX6_callOfOutlet_0 : decode cX6_callOfOutlet 0 = .ok (.aload_n 0, 1) := by decide +kernel
theorem dX6_callOfOutlet_1 : decode cX6_callOfOutlet 1 = .ok (.iconst 0, 1) := by decide +kernel
theorem dX6_callOfOutlet_2 : decode cX6_callOfOutlet 2 = .ok (.iload_n 1, 1) := by decide +kernel
theorem dX6_callOfOutlet_3 : decode cX6_callOfOutlet 3 = .ok (.invokevirtual 78, 3) := by decide +kernel
theorem dX6_callOfOutlet_6 : decode cX6_callOfOutlet 6 = .ok (.ifCond .ne 5, 3) := by decide +kernel
theorem dX6_callOfOutlet_9 : decode cX6_callOfOutlet 9 = .ok (.iconst (-1), 1) := by decide +kernel
theorem dX6_callOfOutlet_10 : decode cX6_callOfOutlet 10 = .ok (.ireturn, 1) := by decide +kernel
theorem dX6_callOfOutlet_11 : decode cX6_callOfOutlet 11 = .ok (.aload_n 0, 1) := by decide +kernel
theorem dX6_callOfOutlet_12 : decode cX6_callOfOutlet 12 = .ok (.iconst 0, 1) := by decide +kernel
theorem dX6_callOfOutlet_13 : decode cX6_callOfOutlet 13 = .ok (.iload_n 1, 1) := by decide +kernel
theorem dX6_callOfOutlet_14 : decode cX6_callOfOutlet 14 = .ok (.invokevirtual 81, 3) := by decide +kernel
theorem dX6_callOfOutlet_17 : decode cX6_callOfOutlet 17 = .ok (.istore_n 2, 1) := by decide +kernel
theorem dX6_callOfOutlet_18 : decode cX6_callOfOutlet 18 = .ok (.iload_n 2, 1) := by decide +kernel
theorem dX6_callOfOutlet_19 : decode cX6_callOfOutlet 19 = .ok (.iconst (-1), 1) := by decide +kernel
theorem dX6_callOfOutlet_20 : decode cX6_callOfOutlet 20 = .ok (.if_icmp .ne 8, 3) := by decide +kernel
theorem dX6_callOfOutlet_23 : decode cX6_callOfOutlet 23 = .ok (.bipush (-6), 2) := by decide +kernel
theorem dX6_callOfOutlet_25 : decode cX6_callOfOutlet 25 = .ok (.goto 10, 3) := by decide +kernel
theorem dX6_callOfOutlet_28 : decode cX6_callOfOutlet 28 = .ok (.aload_n 0, 1) := by decide +kernel
theorem dX6_callOfOutlet_29 : decode cX6_callOfOutlet 29 = .ok (.iconst 0, 1) := by decide +kernel
theorem dX6_callOfOutlet_30 : decode cX6_callOfOutlet 30 = .ok (.iload_n 2, 1) := by decide +kernel
theorem dX6_callOfOutlet_31 : decode cX6_callOfOutlet 31 = .ok (.iconst 0, 1) := by decide +kernel
theorem dX6_callOfOutlet_32 : decode cX6_callOfOutlet 32 = .ok (.invokevirtual 41, 3) := by decide +kernel
theorem dX6_callOfOutlet_35 : decode cX6_callOfOutlet 35 = .ok (.ireturn, 1) := by decide +kernel
set_option maxRecDepth 20000 in
theorem ggX6_inletOf_X6_lines : GoodIn wsX6_inletOf wsX6_lines := goodIn_r _ [5, 6, 11, 12, 13, 14, 15, 16, 17, 18, 19, 20, 21, 22] (by decide +kernel) (by decide +kernel)
set_option maxRecDepth 20000 in
theorem gX6_inletOf_X6_lines : GoodIn wsX6_inletOf (wsV RX6 30 RX6 yX6_lines wsX6_lines) := goodIn_app (goodIn_of _ (by decide +kernel)) ggX6_inletOf_X6_lines
set_option maxRecDepth 20000 in
theorem ggX6_inletOf_X6_of : GoodIn wsX6_inletOf wsX6_of := goodIn_r _ [10, 6, 11, 12, 13, 14, 15, 16, 17, 18, 19, 20, 21, 22] (by decide +kernel) (by decide +kernel)
set_option maxRecDepth 20000 in
theorem gX6_inletOf_X6_of : GoodIn wsX6_inletOf (wsV RX6 41 RX6 yX6_of wsX6_of) := goodIn_app (goodIn_of _ (by decide +kernel)) ggX6_inletOf_X6_of
theorem dX6_inletOf_0 : decode cX6_inletOf 0 = .ok (.iconst 0, 1) := by decide +kernel
theorem dX6_inletOf_1 : decode cX6_inletOf 1 = .ok (.istore_n 2, 1) := by decide +kernel
theorem dX6_inletOf_2 : decode cX6_inletOf 2 = .ok (.iload_n 2, 1) := by decide +kernel
theorem dX6_inletOf_3 : decode cX6_inletOf 3 = .ok (.aload_n 0, 1) := by decide +kernel
theorem dX6_inletOf_4 : decode cX6_inletOf 4 = .ok (.iconst 0, 1) := by decide +kernel
theorem dX6_inletOf_5 : decode cX6_inletOf 5 = .ok (.invokevirtual 30, 3) := by decide +kernel
theorem dX6_inletOf_8 : decode cX6_inletOf 8 = .ok (.if_icmp .ge 26, 3) := by decide +kernel
theorem dX6_inletOf_11 : decode cX6_inletOf 11 = .ok (.iload_n 1, 1) := by decide +kernel
theorem dX6_inletOf_12 : decode cX6_inletOf 12 = .ok (.ifCond .lt 16, 3) := by decide +kernel
theorem dX6_inletOf_15 : decode cX6_inletOf 15 = .ok (.aload_n 0, 1) := by decide +kernel
theorem dX6_inletOf_16 : decode cX6_inletOf 16 = .ok (.iconst 0, 1) := by decide +kernel
theorem dX6_inletOf_17 : decode cX6_inletOf 17 = .ok (.iload_n 2, 1) := by decide +kernel
theorem dX6_inletOf_18 : decode cX6_inletOf 18 = .ok (.iconst 0, 1) := by decide +kernel
theorem dX6_inletOf_19 : decode cX6_inletOf 19 = .ok (.invokevirtual 41, 3) := by decide +kernel
theorem dX6_inletOf_22 : decode cX6_inletOf 22 = .ok (.iload_n 1, 1) := by decide +kernel
theorem dX6_inletOf_23 : decode cX6_inletOf 23 = .ok (.if_icmp .ne 5, 3) := by decide +kernel
theorem dX6_inletOf_26 : decode cX6_inletOf 26 = .ok (.iload_n 2, 1) := by decide +kernel
theorem dX6_inletOf_27 : decode cX6_inletOf 27 = .ok (.ireturn, 1) := by decide +kernel
theorem dX6_inletOf_28 : decode cX6_inletOf 28 = .ok (.iinc 2 1, 3) := by decide +kernel
theorem dX6_inletOf_31 : decode cX6_inletOf 31 = .ok (.goto (-29), 3) := by decide +kernel
theorem dX6_inletOf_34 : decode cX6_inletOf 34 = .ok (.iconst (-1), 1) := by decide +kernel
theorem dX6_inletOf_35 : decode cX6_inletOf 35 = .ok (.ireturn, 1) := by decide +kernel
set_option maxRecDepth 20000 in
theorem ggX6_outletOf_X6_inletOf : GoodIn wsX6_outletOf wsX6_inletOf := goodIn_r _ [5, 6, 7, 8, 4, 9, 10, 11, 12, 13, 14, 15, 16, 17, 18, 19, 20, 21, 22, 23, 24, 25, 26] (by decide +kernel) (by decide +kernel)
set_option maxRecDepth 20000 in
theorem gX6_outletOf_X6_inletOf : GoodIn wsX6_outletOf (wsV RX6 173 RX6 yX6_inletOf wsX6_inletOf) := goodIn_app (goodIn_of _ (by decide +kernel)) ggX6_outletOf_X6_inletOf
set_option maxRecDepth 20000 in
theorem ggX6_outletOf_X6_of : GoodIn wsX6_outletOf wsX6_of := goodIn_r _ [14, 10, 15, 16, 17, 18, 19, 20, 21, 22, 23, 24, 25, 26] (by decide +kernel) (by decide +kernel)
set_option maxRecDepth 20000 in
theorem gX6_outletOf_X6_of : GoodIn wsX6_outletOf (wsV RX6 41 RX6 yX6_of wsX6_of) := goodIn_app (goodIn_of _ (by decide +kernel)) ggX6_outletOf_X6_of
theorem dX6_outletOf_0 : decode cX6_outletOf 0 = .ok (.aload_n 0, 1) := by decide +kernel
theorem dX6_outletOf_1 : decode cX6_outletOf 1 = .ok (.iload_n 1, 1) := by decide +kernel
theorem dX6_outletOf_2 : decode cX6_outletOf 2 = .ok (.invokevirtual 173, 3) := by decide +kernel
theorem dX6_outletOf_5 : decode cX6_outletOf 5 = .ok (.istore_n 2, 1) := by decide +kernel
theorem dX6_outletOf_6 : decode cX6_outletOf 6 = .ok (.iload_n 2, 1) := by decide +kernel
theorem dX6_outletOf_7 : decode cX6_outletOf 7 = .ok (.iconst (-1), 1) := by decide +kernel
theorem dX6_outletOf_8 : decode cX6_outletOf 8 = .ok (.if_icmp .ne 7, 3) := by decide +kernel
theorem dX6_outletOf_11 : decode cX6_outletOf 11 = .ok (.iconst (-1), 1) := by decide +kernel
theorem dX6_outletOf_12 : decode cX6_outletOf 12 = .ok (.goto 10, 3) := by decide +kernel
theorem dX6_outletOf_15 : decode cX6_outletOf 15 = .ok (.aload_n 0, 1) := by decide +kernel
theorem dX6_outletOf_16 : decode cX6_outletOf 16 = .ok (.iconst 0, 1) := by decide +kernel
theorem dX6_outletOf_17 : decode cX6_outletOf 17 = .ok (.iload_n 2, 1) := by decide +kernel
theorem dX6_outletOf_18 : decode cX6_outletOf 18 = .ok (.iconst 1, 1) := by decide +kernel
theorem dX6_outletOf_19 : decode cX6_outletOf 19 = .ok (.invokevirtual 41, 3) := by decide +kernel
theorem dX6_outletOf_22 : decode cX6_outletOf 22 = .ok (.ireturn, 1) := by decide +kernel
set_option maxRecDepth 20000 in
theorem ggX6_middleOf_X6_inletOf : GoodIn wsX6_middleOf wsX6_inletOf := goodIn_r _ [5, 6, 7, 8, 4, 9, 10, 11, 12, 13, 14, 15, 16, 17, 18, 19, 20, 21, 22, 23, 24, 25, 26] (by decide +kernel) (by decide +kernel)
set_option maxRecDepth 20000 in
theorem gX6_middleOf_X6_inletOf : GoodIn wsX6_middleOf (wsV RX6 173 RX6 yX6_inletOf wsX6_inletOf) := goodIn_app (goodIn_of _ (by decide +kernel)) ggX6_middleOf_X6_inletOf
set_option maxRecDepth 20000 in
theorem ggX6_middleOf_X6_of : GoodIn wsX6_middleOf wsX6_of := goodIn_r _ [14, 10, 15, 16, 17, 18, 19, 20, 21, 22, 23, 24, 25, 26] (by decide +kernel) (by decide +kernel)
set_option maxRecDepth 20000 in
theorem gX6_middleOf_X6_of : GoodIn wsX6_middleOf (wsV RX6 41 RX6 yX6_of wsX6_of) := goodIn_app (goodIn_of _ (by decide +kernel)) ggX6_middleOf_X6_of
theorem dX6_middleOf_0 : decode cX6_middleOf 0 = .ok (.aload_n 0, 1) := by decide +kernel
theorem dX6_middleOf_1 : decode cX6_middleOf 1 = .ok (.iload_n 1, 1) := by decide +kernel
theorem dX6_middleOf_2 : decode cX6_middleOf 2 = .ok (.invokevirtual 173, 3) := by decide +kernel
theorem dX6_middleOf_5 : decode cX6_middleOf 5 = .ok (.istore_n 2, 1) := by decide +kernel
theorem dX6_middleOf_6 : decode cX6_middleOf 6 = .ok (.iload_n 2, 1) := by decide +kernel
theorem dX6_middleOf_7 : decode cX6_middleOf 7 = .ok (.iconst (-1), 1) := by decide +kernel
theorem dX6_middleOf_8 : decode cX6_middleOf 8 = .ok (.if_icmp .ne 7, 3) := by decide +kernel
theorem dX6_middleOf_11 : decode cX6_middleOf 11 = .ok (.iconst (-1), 1) := by decide +kernel
theorem dX6_middleOf_12 : decode cX6_middleOf 12 = .ok (.goto 10, 3) := by decide +kernel
theorem dX6_middleOf_15 : decode cX6_middleOf 15 = .ok (.aload_n 0, 1) := by decide +kernel
theorem dX6_middleOf_16 : decode cX6_middleOf 16 = .ok (.iconst 0, 1) := by decide +kernel
theorem dX6_middleOf_17 : decode cX6_middleOf 17 = .ok (.iload_n 2, 1) := by decide +kernel
theorem dX6_middleOf_18 : decode cX6_middleOf 18 = .ok (.iconst 2, 1) := by decide +kernel
theorem dX6_middleOf_19 : decode cX6_middleOf 19 = .ok (.invokevirtual 41, 3) := by decide +kernel
theorem dX6_middleOf_22 : decode cX6_middleOf 22 = .ok (.ireturn, 1) := by decide +kernel
set_option maxRecDepth 20000 in
theorem ggX6_onFirstLink_X6_isBoard : GoodIn wsX6_onFirstLink wsX6_isBoard := goodIn_r _ [5, 6, 7, 8, 4, 9, 26, 27, 28, 29, 30, 31, 32, 33, 34, 35, 36, 37] (by decide +kernel) (by decide +kernel)
set_option maxRecDepth 20000 in
theorem gX6_onFirstLink_X6_isBoard : GoodIn wsX6_onFirstLink (wsV RX6 176 RX6 yX6_isBoard wsX6_isBoard) := goodIn_app (goodIn_of _ (by decide +kernel)) ggX6_onFirstLink_X6_isBoard
set_option maxRecDepth 20000 in
theorem ggX6_onFirstLink_X6_isMiddle : GoodIn wsX6_onFirstLink wsX6_isMiddle := goodIn_r _ [13, 6, 7, 8, 4, 9, 26, 27, 28, 29, 30, 31, 32, 33, 34, 35, 36, 37] (by decide +kernel) (by decide +kernel)
set_option maxRecDepth 20000 in
theorem gX6_onFirstLink_X6_isMiddle : GoodIn wsX6_onFirstLink (wsV RX6 87 RX6 yX6_isMiddle wsX6_isMiddle) := goodIn_app (goodIn_of _ (by decide +kernel)) ggX6_onFirstLink_X6_isMiddle
set_option maxRecDepth 20000 in
theorem ggX6_onFirstLink_X6_onFirst : GoodIn wsX6_onFirstLink wsX6_onFirst := goodIn_r _ [17, 6, 18, 19, 20, 4, 21, 22, 23, 24, 25, 26, 27, 28, 29, 30, 31, 32, 33, 34, 35, 36, 37] (by decide +kernel) (by decide +kernel)
set_option maxRecDepth 20000 in
theorem gX6_onFirstLink_X6_onFirst : GoodIn wsX6_onFirstLink (wsV RX6 45 RX6 yX6_onFirst wsX6_onFirst) := goodIn_app (goodIn_of _ (by decide +kernel)) ggX6_onFirstLink_X6_onFirst
set_option maxRecDepth 20000 in
theorem ggX6_onFirstLink_X6_of : GoodIn wsX6_onFirstLink wsX6_of := goodIn_r _ [25, 6, 26, 27, 28, 29, 30, 31, 32, 33, 34, 35, 36, 37] (by decide +kernel) (by decide +kernel)
set_option maxRecDepth 20000 in
theorem gX6_onFirstLink_X6_of : GoodIn wsX6_onFirstLink (wsV RX6 41 RX6 yX6_of wsX6_of) := goodIn_app (goodIn_of _ (by decide +kernel)) ggX6_onFirstLink_X6_of
theorem dX6_onFirstLink_0 : decode cX6_onFirstLink 0 = .ok (.aload_n 0, 1) := by decide +kernel
theorem dX6_onFirstLink_1 : decode cX6_onFirstLink 1 = .ok (.iload_n 1, 1) := by decide +kernel
theorem dX6_onFirstLink_2 : decode cX6_onFirstLink 2 = .ok (.invokevirtual 176, 3) := by decide +kernel
theorem dX6_onFirstLink_5 : decode cX6_onFirstLink 5 = .ok (.ifCond .eq 12, 3) := by decide +kernel
theorem dX6_onFirstLink_8 : decode cX6_onFirstLink 8 = .ok (.aload_n 0, 1) := by decide +kernel
theorem dX6_onFirstLink_9 : decode cX6_onFirstLink 9 = .ok (.iconst 0, 1) := by decide +kernel
theorem dX6_onFirstLink_10 : decode cX6_onFirstLink 10 = .ok (.iload_n 2, 1) := by decide +kernel
theorem dX6_onFirstLink_11 : decode cX6_onFirstLink 11 = .ok (.invokevirtual 87, 3) := by decide +kernel
theorem dX6_onFirstLink_14 : decode cX6_onFirstLink 14 = .ok (.ifCond .ne 5, 3) := by decide +kernel
theorem dX6_onFirstLink_17 : decode cX6_onFirstLink 17 = .ok (.iconst (-1), 1) := by decide +kernel
theorem dX6_onFirstLink_18 : decode cX6_onFirstLink 18 = .ok (.ireturn, 1) := by decide +kernel
theorem dX6_onFirstLink_19 : decode cX6_onFirstLink 19 = .ok (.aload_n 0, 1) := by decide +kernel
theorem dX6_onFirstLink_20 : decode cX6_onFirstLink 20 = .ok (.iconst 0, 1) := by decide +kernel
theorem dX6_onFirstLink_21 : decode cX6_onFirstLink 21 = .ok (.iload_n 1, 1) := by decide +kernel
theorem dX6_onFirstLink_22 : decode cX6_onFirstLink 22 = .ok (.iload_n 2, 1) := by decide +kernel
theorem dX6_onFirstLink_23 : decode cX6_onFirstLink 23 = .ok (.invokevirtual 45, 3) := by decide +kernel
theorem dX6_onFirstLink_26 : decode cX6_onFirstLink 26 = .ok (.istore_n 3, 1) := by decide +kernel
theorem dX6_onFirstLink_27 : decode cX6_onFirstLink 27 = .ok (.iload_n 3, 1) := by decide +kernel
theorem dX6_onFirstLink_28 : decode cX6_onFirstLink 28 = .ok (.iconst (-1), 1) := by decide +kernel
theorem dX6_onFirstLink_29 : decode cX6_onFirstLink 29 = .ok (.if_icmp .ne 8, 3) := by decide +kernel
theorem dX6_onFirstLink_32 : decode cX6_onFirstLink 32 = .ok (.bipush (-6), 2) := by decide +kernel
theorem dX6_onFirstLink_34 : decode cX6_onFirstLink 34 = .ok (.goto 10, 3) := by decide +kernel
theorem dX6_onFirstLink_37 : decode cX6_onFirstLink 37 = .ok (.aload_n 0, 1) := by decide +kernel
theorem dX6_onFirstLink_38 : decode cX6_onFirstLink 38 = .ok (.iconst 0, 1) := by decide +kernel
theorem dX6_onFirstLink_39 : decode cX6_onFirstLink 39 = .ok (.iload_n 3, 1) := by decide +kernel
theorem dX6_onFirstLink_40 : decode cX6_onFirstLink 40 = .ok (.iconst 0, 1) := by decide +kernel
theorem dX6_onFirstLink_41 : decode cX6_onFirstLink 41 = .ok (.invokevirtual 41, 3) := by decide +kernel
theorem dX6_onFirstLink_44 : decode cX6_onFirstLink 44 = .ok (.ireturn, 1) := by decide +kernel
set_option maxRecDepth 20000 in
theorem ggX6_onLastLink_X6_isBoard : GoodIn wsX6_onLastLink wsX6_isBoard := goodIn_r _ [5, 6, 7, 8, 4, 9, 26, 27, 28, 29, 30, 31, 32, 33, 34, 35, 36, 37] (by decide +kernel) (by decide +kernel)
set_option maxRecDepth 20000 in
theorem gX6_onLastLink_X6_isBoard : GoodIn wsX6_onLastLink (wsV RX6 176 RX6 yX6_isBoard wsX6_isBoard) := goodIn_app (goodIn_of _ (by decide +kernel)) ggX6_onLastLink_X6_isBoard
set_option maxRecDepth 20000 in
theorem ggX6_onLastLink_X6_isMiddle : GoodIn wsX6_onLastLink wsX6_isMiddle := goodIn_r _ [13, 6, 7, 8, 4, 9, 26, 27, 28, 29, 30, 31, 32, 33, 34, 35, 36, 37] (by decide +kernel) (by decide +kernel)
set_option maxRecDepth 20000 in
theorem gX6_onLastLink_X6_isMiddle : GoodIn wsX6_onLastLink (wsV RX6 87 RX6 yX6_isMiddle wsX6_isMiddle) := goodIn_app (goodIn_of _ (by decide +kernel)) ggX6_onLastLink_X6_isMiddle
set_option maxRecDepth 20000 in
theorem ggX6_onLastLink_X6_onLast : GoodIn wsX6_onLastLink wsX6_onLast := goodIn_r _ [17, 6, 18, 19, 20, 4, 21, 22, 23, 24, 25, 26, 27, 28, 29, 30, 31, 32, 33, 34, 35, 36, 37] (by decide +kernel) (by decide +kernel)
set_option maxRecDepth 20000 in
theorem gX6_onLastLink_X6_onLast : GoodIn wsX6_onLastLink (wsV RX6 48 RX6 yX6_onLast wsX6_onLast) := goodIn_app (goodIn_of _ (by decide +kernel)) ggX6_onLastLink_X6_onLast
set_option maxRecDepth 20000 in
theorem ggX6_onLastLink_X6_of : GoodIn wsX6_onLastLink wsX6_of := goodIn_r _ [25, 6, 26, 27, 28, 29, 30, 31, 32, 33, 34, 35, 36, 37] (by decide +kernel) (by decide +kernel)
set_option maxRecDepth 20000 in
theorem gX6_onLastLink_X6_of : GoodIn wsX6_onLastLink (wsV RX6 41 RX6 yX6_of wsX6_of) := goodIn_app (goodIn_of _ (by decide +kernel)) ggX6_onLastLink_X6_of
theorem dX6_onLastLink_0 : decode cX6_onLastLink 0 = .ok (.aload_n 0, 1) := by decide +kernel
theorem dX6_onLastLink_1 : decode cX6_onLastLink 1 = .ok (.iload_n 2, 1) := by decide +kernel
theorem dX6_onLastLink_2 : decode cX6_onLastLink 2 = .ok (.invokevirtual 176, 3) := by decide +kernel
theorem dX6_onLastLink_5 : decode cX6_onLastLink 5 = .ok (.ifCond .eq 12, 3) := by decide +kernel
theorem dX6_onLastLink_8 : decode cX6_onLastLink 8 = .ok (.aload_n 0, 1) := by decide +kernel
theorem dX6_onLastLink_9 : decode cX6_onLastLink 9 = .ok (.iconst 0, 1) := by decide +kernel
theorem dX6_onLastLink_10 : decode cX6_onLastLink 10 = .ok (.iload_n 1, 1) := by decide +kernel
theorem dX6_onLastLink_11 : decode cX6_onLastLink 11 = .ok (.invokevirtual 87, 3) := by decide +kernel
theorem dX6_onLastLink_14 : decode cX6_onLastLink 14 = .ok (.ifCond .ne 5, 3) := by decide +kernel
theorem dX6_onLastLink_17 : decode cX6_onLastLink 17 = .ok (.iconst (-1), 1) := by decide +kernel
theorem dX6_onLastLink_18 : decode cX6_onLastLink 18 = .ok (.ireturn, 1) := by decide +kernel
theorem dX6_onLastLink_19 : decode cX6_onLastLink 19 = .ok (.aload_n 0, 1) := by decide +kernel
theorem dX6_onLastLink_20 : decode cX6_onLastLink 20 = .ok (.iconst 0, 1) := by decide +kernel
theorem dX6_onLastLink_21 : decode cX6_onLastLink 21 = .ok (.iload_n 1, 1) := by decide +kernel
theorem dX6_onLastLink_22 : decode cX6_onLastLink 22 = .ok (.iload_n 2, 1) := by decide +kernel
theorem dX6_onLastLink_23 : decode cX6_onLastLink 23 = .ok (.invokevirtual 48, 3) := by decide +kernel
theorem dX6_onLastLink_26 : decode cX6_onLastLink 26 = .ok (.istore_n 3, 1) := by decide +kernel
theorem dX6_onLastLink_27 : decode cX6_onLastLink 27 = .ok (.iload_n 3, 1) := by decide +kernel
theorem dX6_onLastLink_28 : decode cX6_onLastLink 28 = .ok (.iconst (-1), 1) := by decide +kernel
theorem dX6_onLastLink_29 : decode cX6_onLastLink 29 = .ok (.if_icmp .ne 8, 3) := by decide +kernel
theorem dX6_onLastLink_32 : decode cX6_onLastLink 32 = .ok (.bipush (-6), 2) := by decide +kernel
theorem dX6_onLastLink_34 : decode cX6_onLastLink 34 = .ok (.goto 10, 3) := by decide +kernel
theorem dX6_onLastLink_37 : decode cX6_onLastLink 37 = .ok (.aload_n 0, 1) := by decide +kernel
theorem dX6_onLastLink_38 : decode cX6_onLastLink 38 = .ok (.iconst 0, 1) := by decide +kernel
theorem dX6_onLastLink_39 : decode cX6_onLastLink 39 = .ok (.iload_n 3, 1) := by decide +kernel
theorem dX6_onLastLink_40 : decode cX6_onLastLink 40 = .ok (.iconst 0, 1) := by decide +kernel
theorem dX6_onLastLink_41 : decode cX6_onLastLink 41 = .ok (.invokevirtual 41, 3) := by decide +kernel
theorem dX6_onLastLink_44 : decode cX6_onLastLink 44 = .ok (.ireturn, 1) := by decide +kernel
set_option maxRecDepth 20000 in
theorem ggX6_load_X6_isMiddle : GoodIn wsX6_load wsX6_isMiddle := goodIn_r _ [5, 6, 7, 8, 4, 9, 22, 23, 24, 25, 26, 27, 28, 29, 30, 31, 32, 33] (by decide +kernel) (by decide +kernel)
set_option maxRecDepth 20000 in
theorem gX6_load_X6_isMiddle : GoodIn wsX6_load (wsV RX6 87 RX6 yX6_isMiddle wsX6_isMiddle) := goodIn_app (goodIn_of _ (by decide +kernel)) ggX6_load_X6_isMiddle
set_option maxRecDepth 20000 in
theorem ggX6_load_X6_loadOf : GoodIn wsX6_load wsX6_loadOf := goodIn_r _ [13, 14, 15, 16, 4, 17, 6, 18, 19, 20, 21, 22, 23, 24, 25, 26, 27, 28, 29, 30, 31, 32, 33] (by decide +kernel) (by decide +kernel)
set_option maxRecDepth 20000 in
theorem gX6_load_X6_loadOf : GoodIn wsX6_load (wsV RX6 54 RX6 yX6_loadOf wsX6_loadOf) := goodIn_app (goodIn_of _ (by decide +kernel)) ggX6_load_X6_loadOf
theorem dX6_load_0 : decode cX6_load 0 = .ok (.aload_n 0, 1) := by decide +kernel
theorem dX6_load_1 : decode cX6_load 1 = .ok (.iconst 0, 1) := by decide +kernel
theorem dX6_load_2 : decode cX6_load 2 = .ok (.iload_n 1, 1) := by decide +kernel
theorem dX6_load_3 : decode cX6_load 3 = .ok (.invokevirtual 87, 3) := by decide +kernel
theorem dX6_load_6 : decode cX6_load 6 = .ok (.ifCond .eq 12, 3) := by decide +kernel
theorem dX6_load_9 : decode cX6_load 9 = .ok (.aload_n 0, 1) := by decide +kernel
theorem dX6_load_10 : decode cX6_load 10 = .ok (.iconst 0, 1) := by decide +kernel
theorem dX6_load_11 : decode cX6_load 11 = .ok (.iload_n 1, 1) := by decide +kernel
theorem dX6_load_12 : decode cX6_load 12 = .ok (.invokevirtual 54, 3) := by decide +kernel
theorem dX6_load_15 : decode cX6_load 15 = .ok (.goto 4, 3) := by decide +kernel
theorem dX6_load_18 : decode cX6_load 18 = .ok (.iconst (-1), 1) := by decide +kernel
theorem dX6_load_19 : decode cX6_load 19 = .ok (.ireturn, 1) := by decide +kernel
set_option maxRecDepth 20000 in
theorem ggX6_freeForFirst_X6_isBoard : GoodIn wsX6_freeForFirst wsX6_isBoard := goodIn_r _ [5, 6, 7, 8, 4, 9, 29, 30, 31, 32, 33, 34, 35, 36, 37, 38, 39, 40] (by decide +kernel) (by decide +kernel)
set_option maxRecDepth 20000 in
theorem gX6_freeForFirst_X6_isBoard : GoodIn wsX6_freeForFirst (wsV RX6 176 RX6 yX6_isBoard wsX6_isBoard) := goodIn_app (goodIn_of _ (by decide +kernel)) ggX6_freeForFirst_X6_isBoard
set_option maxRecDepth 20000 in
theorem ggX6_freeForFirst_X6_freeAhead : GoodIn wsX6_freeForFirst wsX6_freeAhead := goodIn_r _ [13, 6, 14, 15, 4, 16, 17, 18, 19, 20, 21, 22, 23, 24, 25, 26, 27, 28, 29, 30, 31, 32, 33, 34, 35, 36, 37, 38, 39, 40] (by decide +kernel) (by decide +kernel)
set_option maxRecDepth 20000 in
theorem gX6_freeForFirst_X6_freeAhead : GoodIn wsX6_freeForFirst (wsV RX6 62 RX6 yX6_freeAhead wsX6_freeAhead) := goodIn_app (goodIn_of _ (by decide +kernel)) ggX6_freeForFirst_X6_freeAhead
theorem dX6_freeForFirst_0 : decode cX6_freeForFirst 0 = .ok (.aload_n 0, 1) := by decide +kernel
theorem dX6_freeForFirst_1 : decode cX6_freeForFirst 1 = .ok (.iload_n 1, 1) := by decide +kernel
theorem dX6_freeForFirst_2 : decode cX6_freeForFirst 2 = .ok (.invokevirtual 176, 3) := by decide +kernel
theorem dX6_freeForFirst_5 : decode cX6_freeForFirst 5 = .ok (.ifCond .eq 12, 3) := by decide +kernel
theorem dX6_freeForFirst_8 : decode cX6_freeForFirst 8 = .ok (.aload_n 0, 1) := by decide +kernel
theorem dX6_freeForFirst_9 : decode cX6_freeForFirst 9 = .ok (.iconst 0, 1) := by decide +kernel
theorem dX6_freeForFirst_10 : decode cX6_freeForFirst 10 = .ok (.iload_n 1, 1) := by decide +kernel
theorem dX6_freeForFirst_11 : decode cX6_freeForFirst 11 = .ok (.invokevirtual 62, 3) := by decide +kernel
theorem dX6_freeForFirst_14 : decode cX6_freeForFirst 14 = .ok (.goto 4, 3) := by decide +kernel
theorem dX6_freeForFirst_17 : decode cX6_freeForFirst 17 = .ok (.iconst (-1), 1) := by decide +kernel
theorem dX6_freeForFirst_18 : decode cX6_freeForFirst 18 = .ok (.ireturn, 1) := by decide +kernel
set_option maxRecDepth 20000 in
theorem ggX6_freeForLast_X6_isBoard : GoodIn wsX6_freeForLast wsX6_isBoard := goodIn_r _ [5, 6, 7, 8, 4, 9, 29, 30, 31, 32, 33, 34, 35, 36, 37, 38, 39, 40] (by decide +kernel) (by decide +kernel)
set_option maxRecDepth 20000 in
theorem gX6_freeForLast_X6_isBoard : GoodIn wsX6_freeForLast (wsV RX6 176 RX6 yX6_isBoard wsX6_isBoard) := goodIn_app (goodIn_of _ (by decide +kernel)) ggX6_freeForLast_X6_isBoard
set_option maxRecDepth 20000 in
theorem ggX6_freeForLast_X6_freeBehind : GoodIn wsX6_freeForLast wsX6_freeBehind := goodIn_r _ [13, 6, 14, 15, 4, 16, 17, 18, 19, 20, 21, 22, 23, 24, 25, 26, 27, 28, 29, 30, 31, 32, 33, 34, 35, 36, 37, 38, 39, 40] (by decide +kernel) (by decide +kernel)
set_option maxRecDepth 20000 in
theorem gX6_freeForLast_X6_freeBehind : GoodIn wsX6_freeForLast (wsV RX6 65 RX6 yX6_freeBehind wsX6_freeBehind) := goodIn_app (goodIn_of _ (by decide +kernel)) ggX6_freeForLast_X6_freeBehind
theorem dX6_freeForLast_0 : decode cX6_freeForLast 0 = .ok (.aload_n 0, 1) := by decide +kernel
theorem dX6_freeForLast_1 : decode cX6_freeForLast 1 = .ok (.iload_n 1, 1) := by decide +kernel
theorem dX6_freeForLast_2 : decode cX6_freeForLast 2 = .ok (.invokevirtual 176, 3) := by decide +kernel
theorem dX6_freeForLast_5 : decode cX6_freeForLast 5 = .ok (.ifCond .eq 12, 3) := by decide +kernel
theorem dX6_freeForLast_8 : decode cX6_freeForLast 8 = .ok (.aload_n 0, 1) := by decide +kernel
theorem dX6_freeForLast_9 : decode cX6_freeForLast 9 = .ok (.iconst 0, 1) := by decide +kernel
theorem dX6_freeForLast_10 : decode cX6_freeForLast 10 = .ok (.iload_n 1, 1) := by decide +kernel
theorem dX6_freeForLast_11 : decode cX6_freeForLast 11 = .ok (.invokevirtual 65, 3) := by decide +kernel
theorem dX6_freeForLast_14 : decode cX6_freeForLast 14 = .ok (.goto 4, 3) := by decide +kernel
theorem dX6_freeForLast_17 : decode cX6_freeForLast 17 = .ok (.iconst (-1), 1) := by decide +kernel
theorem dX6_freeForLast_18 : decode cX6_freeForLast 18 = .ok (.ireturn, 1) := by decide +kernel
theorem dX6_inService_0 : decode cX6_inService 0 = .ok (.aload_n 0, 1) := by decide +kernel
theorem dX6_inService_1 : decode cX6_inService 1 = .ok (.getfield 7, 3) := by decide +kernel
theorem dX6_inService_4 : decode cX6_inService 4 = .ok (.bipush 9, 2) := by decide +kernel
theorem dX6_inService_6 : decode cX6_inService 6 = .ok (.iaload, 1) := by decide +kernel
theorem dX6_inService_7 : decode cX6_inService 7 = .ok (.ireturn, 1) := by decide +kernel
set_option maxRecDepth 20000 in
theorem ggX6_total_X6_calls : GoodIn wsX6_total wsX6_calls := goodIn_r _ [8, 9, 10, 11, 7, 12, 1, 13, 14, 15, 16, 17, 18, 19, 20, 21, 22, 23, 24, 25, 26, 27, 28] (by decide +kernel) (by decide +kernel)
set_option maxRecDepth 20000 in
theorem gX6_total_X6_calls : GoodIn wsX6_total (wsV RX6 96 RX6 yX6_calls wsX6_calls) := goodIn_app (goodIn_of _ (by decide +kernel)) ggX6_total_X6_calls
theorem dX6_total_0 : decode cX6_total 0 = .ok (.iload_n 1, 1) := by decide +kernel
theorem dX6_total_1 : decode cX6_total 1 = .ok (.tableswitch 95 0 11 #[63, 63, 63, 63, 63, 70, 76, 76, 76, 76, 85, 90], 63) := by decide +kernel
theorem dX6_total_64 : decode cX6_total 64 = .ok (.aload_n 0, 1) := by decide +kernel
theorem dX6_total_65 : decode cX6_total 65 = .ok (.getfield 7, 3) := by decide +kernel
theorem dX6_total_68 : decode cX6_total 68 = .ok (.iload_n 1, 1) := by decide +kernel
theorem dX6_total_69 : decode cX6_total 69 = .ok (.iaload, 1) := by decide +kernel
theorem dX6_total_70 : decode cX6_total 70 = .ok (.ireturn, 1) := by decide +kernel
theorem dX6_total_71 : decode cX6_total 71 = .ok (.aload_n 0, 1) := by decide +kernel
theorem dX6_total_72 : decode cX6_total 72 = .ok (.iconst 0, 1) := by decide +kernel
theorem dX6_total_73 : decode cX6_total 73 = .ok (.invokevirtual 96, 3) := by decide +kernel
theorem dX6_total_76 : decode cX6_total 76 = .ok (.ireturn, 1) := by decide +kernel
theorem dX6_total_77 : decode cX6_total 77 = .ok (.aload_n 0, 1) := by decide +kernel
theorem dX6_total_78 : decode cX6_total 78 = .ok (.getfield 7, 3) := by decide +kernel
theorem dX6_total_81 : decode cX6_total 81 = .ok (.iload_n 1, 1) := by decide +kernel
theorem dX6_total_82 : decode cX6_total 82 = .ok (.iconst 1, 1) := by decide +kernel
theorem dX6_total_83 : decode cX6_total 83 = .ok (.isub, 1) := by decide +kernel
theorem dX6_total_84 : decode cX6_total 84 = .ok (.iaload, 1) := by decide +kernel
theorem dX6_total_85 : decode cX6_total 85 = .ok (.ireturn, 1) := by decide +kernel
theorem dX6_total_86 : decode cX6_total 86 = .ok (.aload_n 0, 1) := by decide +kernel
theorem dX6_total_87 : decode cX6_total 87 = .ok (.getfield 102, 3) := by decide +kernel
theorem dX6_total_90 : decode cX6_total 90 = .ok (.ireturn, 1) := by decide +kernel
theorem dX6_total_91 : decode cX6_total 91 = .ok (.aload_n 0, 1) := by decide +kernel
theorem dX6_total_92 : decode cX6_total 92 = .ok (.getfield 130, 3) := by decide +kernel
theorem dX6_total_95 : decode cX6_total 95 = .ok (.ireturn, 1) := by decide +kernel
theorem dX6_total_96 : decode cX6_total 96 = .ok (.bipush (-2), 2) := by decide +kernel
theorem dX6_total_98 : decode cX6_total 98 = .ok (.ireturn, 1) := by decide +kernel
set_option maxRecDepth 20000 in
theorem ggX6_wouldMove_X6_copies : GoodIn wsX6_wouldMove wsX6_copies := goodIn_r _ [6, 7, 78, 79, 80, 81, 82, 83, 84, 85, 86, 87, 88, 89] (by decide +kernel) (by decide +kernel)
set_option maxRecDepth 20000 in
theorem gX6_wouldMove_X6_copies : GoodIn wsX6_wouldMove (wsV RX6 105 RX6 yX6_copies wsX6_copies) := goodIn_app (goodIn_of _ (by decide +kernel)) ggX6_wouldMove_X6_copies
set_option maxRecDepth 20000 in
theorem ggX6_wouldMove_X6_connects : GoodIn wsX6_wouldMove wsX6_connects := goodIn_r _ [11, 7, 12, 13, 14, 5, 15, 16, 17, 18, 19, 20, 21, 22, 23, 24, 25, 26, 27, 28, 29, 30, 31, 32, 33, 34, 35, 36, 37, 38, 1, 39, 40, 41, 42, 43, 44, 45, 46, 47, 48, 49, 50, 51, 52, 53, 54, 55, 56, 57, 58, 59, 60, 61, 62, 63, 64, 65, 66, 67, 68, 69, 70, 71, 72, 73, 74, 75, 76, 77, 78, 79, 80, 81, 82, 83, 84, 85, 86, 87, 88, 89] (by decide +kernel) (by decide +kernel)
set_option maxRecDepth 20000 in
theorem gX6_wouldMove_X6_connects : GoodIn wsX6_wouldMove (wsV RX6 115 RX6 yX6_connects wsX6_connects) := goodIn_app (goodIn_of _ (by decide +kernel)) ggX6_wouldMove_X6_connects
theorem dX6_wouldMove_0 : decode cX6_wouldMove 0 = .ok (.aload_n 0, 1) := by decide +kernel
theorem dX6_wouldMove_1 : decode cX6_wouldMove 1 = .ok (.iconst 0, 1) := by decide +kernel
theorem dX6_wouldMove_2 : decode cX6_wouldMove 2 = .ok (.bipush 6, 2) := by decide +kernel
theorem dX6_wouldMove_4 : decode cX6_wouldMove 4 = .ok (.invokevirtual 105, 3) := by decide +kernel
theorem dX6_wouldMove_7 : decode cX6_wouldMove 7 = .ok (.aload_n 0, 1) := by decide +kernel
theorem dX6_wouldMove_8 : decode cX6_wouldMove 8 = .ok (.sipush 924, 3) := by decide +kernel
theorem dX6_wouldMove_11 : decode cX6_wouldMove 11 = .ok (.iload_n 1, 1) := by decide +kernel
theorem dX6_wouldMove_12 : decode cX6_wouldMove 12 = .ok (.iload_n 2, 1) := by decide +kernel
theorem dX6_wouldMove_13 : decode cX6_wouldMove 13 = .ok (.invokevirtual 115, 3) := by decide +kernel
theorem dX6_wouldMove_16 : decode cX6_wouldMove 16 = .ok (.istore_n 3, 1) := by decide +kernel
theorem dX6_wouldMove_17 : decode cX6_wouldMove 17 = .ok (.iload_n 3, 1) := by decide +kernel
theorem dX6_wouldMove_18 : decode cX6_wouldMove 18 = .ok (.ifCond .ge 7, 3) := by decide +kernel
theorem dX6_wouldMove_21 : decode cX6_wouldMove 21 = .ok (.iload_n 3, 1) := by decide +kernel
theorem dX6_wouldMove_22 : decode cX6_wouldMove 22 = .ok (.goto 7, 3) := by decide +kernel
theorem dX6_wouldMove_25 : decode cX6_wouldMove 25 = .ok (.aload_n 0, 1) := by decide +kernel
theorem dX6_wouldMove_26 : decode cX6_wouldMove 26 = .ok (.getfield 68, 3) := by decide +kernel
theorem dX6_wouldMove_29 : decode cX6_wouldMove 29 = .ok (.ireturn, 1) := by decide +kernel
set_option maxRecDepth 20000 in
theorem ggX6_chainCall_X6_copies : GoodIn wsX6_chainCall wsX6_copies := goodIn_r _ [7, 8, 78, 79, 80, 81, 82, 83, 84, 85, 86, 87, 88, 89] (by decide +kernel) (by decide +kernel)
set_option maxRecDepth 20000 in
theorem gX6_chainCall_X6_copies : GoodIn wsX6_chainCall (wsV RX6 105 RX6 yX6_copies wsX6_copies) := goodIn_app (goodIn_of _ (by decide +kernel)) ggX6_chainCall_X6_copies
set_option maxRecDepth 20000 in
theorem ggX6_chainCall_X6_connects : GoodIn wsX6_chainCall wsX6_connects := goodIn_r _ [12, 8, 13, 14, 15, 6, 16, 17, 18, 19, 20, 21, 22, 23, 24, 25, 26, 27, 28, 29, 30, 31, 32, 33, 34, 35, 36, 37, 38, 39, 1, 2, 40, 41, 42, 43, 44, 45, 46, 47, 48, 49, 50, 51, 52, 53, 54, 55, 56, 57, 58, 59, 60, 61, 62, 63, 64, 65, 66, 67, 68, 69, 70, 71, 72, 73, 74, 75, 76, 77, 78, 79, 80, 81, 82, 83, 84, 85, 86, 87, 88, 89] (by decide +kernel) (by decide +kernel)
set_option maxRecDepth 20000 in
theorem gX6_chainCall_X6_connects : GoodIn wsX6_chainCall (wsV RX6 115 RX6 yX6_connects wsX6_connects) := goodIn_app (goodIn_of _ (by decide +kernel)) ggX6_chainCall_X6_connects
set_option maxRecDepth 20000 in
theorem ggX6_chainCall_X6_of : GoodIn wsX6_chainCall wsX6_of := goodIn_r _ [27, 8, 78, 79, 80, 81, 82, 83, 84, 85, 86, 87, 88, 89] (by decide +kernel) (by decide +kernel)
set_option maxRecDepth 20000 in
theorem gX6_chainCall_X6_of : GoodIn wsX6_chainCall (wsV RX6 41 RX6 yX6_of wsX6_of) := goodIn_app (goodIn_of _ (by decide +kernel)) ggX6_chainCall_X6_of
theorem dX6_chainCall_0 : decode cX6_chainCall 0 = .ok (.aload_n 0, 1) := by decide +kernel
theorem dX6_chainCall_1 : decode cX6_chainCall 1 = .ok (.iconst 0, 1) := by decide +kernel
theorem dX6_chainCall_2 : decode cX6_chainCall 2 = .ok (.bipush 6, 2) := by decide +kernel
theorem dX6_chainCall_4 : decode cX6_chainCall 4 = .ok (.invokevirtual 105, 3) := by decide +kernel
theorem dX6_chainCall_7 : decode cX6_chainCall 7 = .ok (.aload_n 0, 1) := by decide +kernel
theorem dX6_chainCall_8 : decode cX6_chainCall 8 = .ok (.sipush 924, 3) := by decide +kernel
theorem dX6_chainCall_11 : decode cX6_chainCall 11 = .ok (.iload_n 1, 1) := by decide +kernel
theorem dX6_chainCall_12 : decode cX6_chainCall 12 = .ok (.iload_n 2, 1) := by decide +kernel
theorem dX6_chainCall_13 : decode cX6_chainCall 13 = .ok (.invokevirtual 115, 3) := by decide +kernel
theorem dX6_chainCall_16 : decode cX6_chainCall 16 = .ok (.istore 4, 2) := by decide +kernel
theorem dX6_chainCall_18 : decode cX6_chainCall 18 = .ok (.iload 4, 2) := by decide +kernel
theorem dX6_chainCall_20 : decode cX6_chainCall 20 = .ok (.ifCond .ge 6, 3) := by decide +kernel
theorem dX6_chainCall_23 : decode cX6_chainCall 23 = .ok (.iload 4, 2) := by decide +kernel
theorem dX6_chainCall_25 : decode cX6_chainCall 25 = .ok (.ireturn, 1) := by decide +kernel
theorem dX6_chainCall_26 : decode cX6_chainCall 26 = .ok (.iload_n 3, 1) := by decide +kernel
theorem dX6_chainCall_27 : decode cX6_chainCall 27 = .ok (.ifCond .ge 6, 3) := by decide +kernel
theorem dX6_chainCall_30 : decode cX6_chainCall 30 = .ok (.bipush (-2), 2) := by decide +kernel
theorem dX6_chainCall_32 : decode cX6_chainCall 32 = .ok (.ireturn, 1) := by decide +kernel
theorem dX6_chainCall_33 : decode cX6_chainCall 33 = .ok (.iload_n 3, 1) := by decide +kernel
theorem dX6_chainCall_34 : decode cX6_chainCall 34 = .ok (.aload_n 0, 1) := by decide +kernel
theorem dX6_chainCall_35 : decode cX6_chainCall 35 = .ok (.getfield 68, 3) := by decide +kernel
theorem dX6_chainCall_38 : decode cX6_chainCall 38 = .ok (.if_icmp .ge 18, 3) := by decide +kernel
theorem dX6_chainCall_41 : decode cX6_chainCall 41 = .ok (.aload_n 0, 1) := by decide +kernel
theorem dX6_chainCall_42 : decode cX6_chainCall 42 = .ok (.iconst 0, 1) := by decide +kernel
theorem dX6_chainCall_43 : decode cX6_chainCall 43 = .ok (.aload_n 0, 1) := by decide +kernel
theorem dX6_chainCall_44 : decode cX6_chainCall 44 = .ok (.getfield 16, 3) := by decide +kernel
theorem dX6_chainCall_47 : decode cX6_chainCall 47 = .ok (.iload_n 3, 1) := by decide +kernel
theorem dX6_chainCall_48 : decode cX6_chainCall 48 = .ok (.iaload, 1) := by decide +kernel
theorem dX6_chainCall_49 : decode cX6_chainCall 49 = .ok (.iconst 0, 1) := by decide +kernel
theorem dX6_chainCall_50 : decode cX6_chainCall 50 = .ok (.invokevirtual 41, 3) := by decide +kernel
theorem dX6_chainCall_53 : decode cX6_chainCall 53 = .ok (.goto 5, 3) := by decide +kernel
theorem dX6_chainCall_56 : decode cX6_chainCall 56 = .ok (.bipush (-6), 2) := by decide +kernel
theorem dX6_chainCall_58 : decode cX6_chainCall 58 = .ok (.ireturn, 1) := by decide +kernel
set_option maxRecDepth 20000 in
theorem ggX6_reason_X6_isLine : GoodIn wsX6_reason wsX6_isLine := goodIn_r _ [6, 7, 8, 9, 5, 10, 1, 11, 12, 13, 41, 42, 43, 44, 45, 46, 47, 48, 49, 50, 51, 52] (by decide +kernel) (by decide +kernel)
set_option maxRecDepth 20000 in
theorem gX6_reason_X6_isLine : GoodIn wsX6_reason (wsV RX6 78 RX6 yX6_isLine wsX6_isLine) := goodIn_app (goodIn_of _ (by decide +kernel)) ggX6_reason_X6_isLine
set_option maxRecDepth 20000 in
theorem ggX6_reason_X6_of : GoodIn wsX6_reason wsX6_of := goodIn_r _ [17, 1, 41, 42, 43, 44, 45, 46, 47, 48, 49, 50, 51, 52] (by decide +kernel) (by decide +kernel)
set_option maxRecDepth 20000 in
theorem gX6_reason_X6_of : GoodIn wsX6_reason (wsV RX6 41 RX6 yX6_of wsX6_of) := goodIn_app (goodIn_of _ (by decide +kernel)) ggX6_reason_X6_of
set_option maxRecDepth 20000 in
theorem ggX6_reason_X6_inletTo : GoodIn wsX6_reason wsX6_inletTo := goodIn_r _ [21, 7, 8, 9, 5, 10, 1, 14, 15, 16, 17, 41, 42, 43, 44, 45, 46, 47, 48, 49, 50, 51, 52] (by decide +kernel) (by decide +kernel)
set_option maxRecDepth 20000 in
theorem gX6_reason_X6_inletTo : GoodIn wsX6_reason (wsV RX6 81 RX6 yX6_inletTo wsX6_inletTo) := goodIn_app (goodIn_of _ (by decide +kernel)) ggX6_reason_X6_inletTo
set_option maxRecDepth 20000 in
theorem ggX6_reason_X6_freeAhead : GoodIn wsX6_reason wsX6_freeAhead := goodIn_r _ [25, 1, 26, 27, 5, 28, 29, 30, 31, 32, 7, 8, 9, 10, 14, 15, 16, 17, 41, 42, 43, 44, 45, 46, 47, 48, 49, 50, 51, 52] (by decide +kernel) (by decide +kernel)
set_option maxRecDepth 20000 in
theorem gX6_reason_X6_freeAhead : GoodIn wsX6_reason (wsV RX6 62 RX6 yX6_freeAhead wsX6_freeAhead) := goodIn_app (goodIn_of _ (by decide +kernel)) ggX6_reason_X6_freeAhead
set_option maxRecDepth 20000 in
theorem ggX6_reason_X6_freeBehind : GoodIn wsX6_reason wsX6_freeBehind := goodIn_r _ [36, 1, 26, 27, 5, 28, 37, 38, 39, 40, 7, 8, 9, 10, 14, 15, 16, 17, 41, 42, 43, 44, 45, 46, 47, 48, 49, 50, 51, 52] (by decide +kernel) (by decide +kernel)
set_option maxRecDepth 20000 in
theorem gX6_reason_X6_freeBehind : GoodIn wsX6_reason (wsV RX6 65 RX6 yX6_freeBehind wsX6_freeBehind) := goodIn_app (goodIn_of _ (by decide +kernel)) ggX6_reason_X6_freeBehind
theorem dX6_reason_0 : decode cX6_reason 0 = .ok (.aload_n 0, 1) := by decide +kernel
theorem dX6_reason_1 : decode cX6_reason 1 = .ok (.iconst 0, 1) := by decide +kernel
theorem dX6_reason_2 : decode cX6_reason 2 = .ok (.iload_n 1, 1) := by decide +kernel
theorem dX6_reason_3 : decode cX6_reason 3 = .ok (.invokevirtual 78, 3) := by decide +kernel
theorem dX6_reason_6 : decode cX6_reason 6 = .ok (.ifCond .eq 12, 3) := by decide +kernel
theorem dX6_reason_9 : decode cX6_reason 9 = .ok (.aload_n 0, 1) := by decide +kernel
theorem dX6_reason_10 : decode cX6_reason 10 = .ok (.iconst 0, 1) := by decide +kernel
theorem dX6_reason_11 : decode cX6_reason 11 = .ok (.iload_n 2, 1) := by decide +kernel
theorem dX6_reason_12 : decode cX6_reason 12 = .ok (.invokevirtual 78, 3) := by decide +kernel
theorem dX6_reason_15 : decode cX6_reason 15 = .ok (.ifCond .ne 5, 3) := by decide +kernel
theorem dX6_reason_18 : decode cX6_reason 18 = .ok (.iconst (-1), 1) := by decide +kernel
theorem dX6_reason_19 : decode cX6_reason 19 = .ok (.ireturn, 1) := by decide +kernel
theorem dX6_reason_20 : decode cX6_reason 20 = .ok (.aload_n 0, 1) := by decide +kernel
theorem dX6_reason_21 : decode cX6_reason 21 = .ok (.iconst 0, 1) := by decide +kernel
theorem dX6_reason_22 : decode cX6_reason 22 = .ok (.iload_n 1, 1) := by decide +kernel
theorem dX6_reason_23 : decode cX6_reason 23 = .ok (.iconst 0, 1) := by decide +kernel
theorem dX6_reason_24 : decode cX6_reason 24 = .ok (.invokevirtual 41, 3) := by decide +kernel
theorem dX6_reason_27 : decode cX6_reason 27 = .ok (.iconst (-1), 1) := by decide +kernel
theorem dX6_reason_28 : decode cX6_reason 28 = .ok (.if_icmp .eq 5, 3) := by decide +kernel
theorem dX6_reason_31 : decode cX6_reason 31 = .ok (.iconst 2, 1) := by decide +kernel
theorem dX6_reason_32 : decode cX6_reason 32 = .ok (.ireturn, 1) := by decide +kernel
theorem dX6_reason_33 : decode cX6_reason 33 = .ok (.aload_n 0, 1) := by decide +kernel
theorem dX6_reason_34 : decode cX6_reason 34 = .ok (.iconst 0, 1) := by decide +kernel
theorem dX6_reason_35 : decode cX6_reason 35 = .ok (.iload_n 2, 1) := by decide +kernel
theorem dX6_reason_36 : decode cX6_reason 36 = .ok (.invokevirtual 81, 3) := by decide +kernel
theorem dX6_reason_39 : decode cX6_reason 39 = .ok (.iconst (-1), 1) := by decide +kernel
theorem dX6_reason_40 : decode cX6_reason 40 = .ok (.if_icmp .eq 5, 3) := by decide +kernel
theorem dX6_reason_43 : decode cX6_reason 43 = .ok (.iconst 3, 1) := by decide +kernel
theorem dX6_reason_44 : decode cX6_reason 44 = .ok (.ireturn, 1) := by decide +kernel
theorem dX6_reason_45 : decode cX6_reason 45 = .ok (.aload_n 0, 1) := by decide +kernel
theorem dX6_reason_46 : decode cX6_reason 46 = .ok (.iconst 0, 1) := by decide +kernel
theorem dX6_reason_47 : decode cX6_reason 47 = .ok (.iload_n 1, 1) := by decide +kernel
theorem dX6_reason_48 : decode cX6_reason 48 = .ok (.aload_n 0, 1) := by decide +kernel
theorem dX6_reason_49 : decode cX6_reason 49 = .ok (.getfield 7, 3) := by decide +kernel
theorem dX6_reason_52 : decode cX6_reason 52 = .ok (.iconst 1, 1) := by decide +kernel
theorem dX6_reason_53 : decode cX6_reason 53 = .ok (.iaload, 1) := by decide +kernel
theorem dX6_reason_54 : decode cX6_reason 54 = .ok (.idiv, 1) := by decide +kernel
theorem dX6_reason_55 : decode cX6_reason 55 = .ok (.invokevirtual 62, 3) := by decide +kernel
theorem dX6_reason_58 : decode cX6_reason 58 = .ok (.istore_n 3, 1) := by decide +kernel
theorem dX6_reason_59 : decode cX6_reason 59 = .ok (.aload_n 0, 1) := by decide +kernel
theorem dX6_reason_60 : decode cX6_reason 60 = .ok (.iconst 0, 1) := by decide +kernel
theorem dX6_reason_61 : decode cX6_reason 61 = .ok (.iload_n 2, 1) := by decide +kernel
theorem dX6_reason_62 : decode cX6_reason 62 = .ok (.aload_n 0, 1) := by decide +kernel
theorem dX6_reason_63 : decode cX6_reason 63 = .ok (.getfield 7, 3) := by decide +kernel
theorem dX6_reason_66 : decode cX6_reason 66 = .ok (.iconst 1, 1) := by decide +kernel
theorem dX6_reason_67 : decode cX6_reason 67 = .ok (.iaload, 1) := by decide +kernel
theorem dX6_reason_68 : decode cX6_reason 68 = .ok (.idiv, 1) := by decide +kernel
theorem dX6_reason_69 : decode cX6_reason 69 = .ok (.invokevirtual 65, 3) := by decide +kernel
theorem dX6_reason_72 : decode cX6_reason 72 = .ok (.istore 4, 2) := by decide +kernel
theorem dX6_reason_74 : decode cX6_reason 74 = .ok (.iload_n 3, 1) := by decide +kernel
theorem dX6_reason_75 : decode cX6_reason 75 = .ok (.ifCond .ne 7, 3) := by decide +kernel
theorem dX6_reason_78 : decode cX6_reason 78 = .ok (.iconst 4, 1) := by decide +kernel
theorem dX6_reason_79 : decode cX6_reason 79 = .ok (.goto 24, 3) := by decide +kernel
theorem dX6_reason_82 : decode cX6_reason 82 = .ok (.iload 4, 2) := by decide +kernel
theorem dX6_reason_84 : decode cX6_reason 84 = .ok (.ifCond .ne 7, 3) := by decide +kernel
theorem dX6_reason_87 : decode cX6_reason 87 = .ok (.iconst 5, 1) := by decide +kernel
theorem dX6_reason_88 : decode cX6_reason 88 = .ok (.goto 15, 3) := by decide +kernel
theorem dX6_reason_91 : decode cX6_reason 91 = .ok (.iload_n 3, 1) := by decide +kernel
theorem dX6_reason_92 : decode cX6_reason 92 = .ok (.iload 4, 2) := by decide +kernel
theorem dX6_reason_94 : decode cX6_reason 94 = .ok (.iand, 1) := by decide +kernel
theorem dX6_reason_95 : decode cX6_reason 95 = .ok (.ifCond .eq 7, 3) := by decide +kernel
theorem dX6_reason_98 : decode cX6_reason 98 = .ok (.iconst 0, 1) := by decide +kernel
theorem dX6_reason_99 : decode cX6_reason 99 = .ok (.goto 4, 3) := by decide +kernel
theorem dX6_reason_102 : decode cX6_reason 102 = .ok (.iconst 1, 1) := by decide +kernel
theorem dX6_reason_103 : decode cX6_reason 103 = .ok (.ireturn, 1) := by decide +kernel
set_option maxRecDepth 20000 in
theorem ggX6_leastMiddles_X6_least : GoodIn wsX6_leastMiddles wsX6_least := goodIn_r _ [5, 6, 7, 8, 9, 4, 10, 11, 12, 13, 14, 15, 16, 17, 18, 19, 20, 21, 22, 23, 24, 25, 26] (by decide +kernel) (by decide +kernel)
set_option maxRecDepth 20000 in
theorem gX6_leastMiddles_X6_least : GoodIn wsX6_leastMiddles (wsV RX6 99 RX6 yX6_least wsX6_least) := goodIn_app (goodIn_of _ (by decide +kernel)) ggX6_leastMiddles_X6_least
theorem dX6_leastMiddles_0 : decode cX6_leastMiddles 0 = .ok (.aload_n 0, 1) := by decide +kernel
theorem dX6_leastMiddles_1 : decode cX6_leastMiddles 1 = .ok (.iconst 0, 1) := by decide +kernel
theorem dX6_leastMiddles_2 : decode cX6_leastMiddles 2 = .ok (.invokevirtual 99, 3) := by decide +kernel
theorem dX6_leastMiddles_5 : decode cX6_leastMiddles 5 = .ok (.ireturn, 1) := by decide +kernel
set_option maxRecDepth 20000 in
theorem ggX6_wouldDrop_X6_copies : GoodIn wsX6_wouldDrop wsX6_copies := goodIn_r _ [5, 6, 78, 79, 80, 81, 82, 83, 84, 85, 86, 87, 88, 89] (by decide +kernel) (by decide +kernel)
set_option maxRecDepth 20000 in
theorem gX6_wouldDrop_X6_copies : GoodIn wsX6_wouldDrop (wsV RX6 105 RX6 yX6_copies wsX6_copies) := goodIn_app (goodIn_of _ (by decide +kernel)) ggX6_wouldDrop_X6_copies
set_option maxRecDepth 20000 in
theorem ggX6_wouldDrop_X6_takesOut : GoodIn wsX6_wouldDrop wsX6_takesOut := goodIn_r _ [10, 6, 11, 12, 13, 4, 14, 15, 16, 17, 18, 19, 20, 21, 22, 23, 24, 25, 26, 27, 28, 29, 30, 31, 32, 33, 34, 35, 36, 37, 38, 39, 40, 41, 42, 43, 44, 45, 46, 47, 48, 49, 50, 51, 52, 53, 54, 55, 56, 57, 58, 59, 60, 61, 62, 63, 64, 65, 66, 67, 68, 69, 70, 71, 72, 73, 74, 75, 76, 77, 78, 79, 80, 81, 82, 83, 84, 85, 86, 87, 88, 89] (by decide +kernel) (by decide +kernel)
set_option maxRecDepth 20000 in
theorem gX6_wouldDrop_X6_takesOut : GoodIn wsX6_wouldDrop (wsV RX6 121 RX6 yX6_takesOut wsX6_takesOut) := goodIn_app (goodIn_of _ (by decide +kernel)) ggX6_wouldDrop_X6_takesOut
theorem dX6_wouldDrop_0 : decode cX6_wouldDrop 0 = .ok (.aload_n 0, 1) := by decide +kernel
theorem dX6_wouldDrop_1 : decode cX6_wouldDrop 1 = .ok (.iconst 0, 1) := by decide +kernel
theorem dX6_wouldDrop_2 : decode cX6_wouldDrop 2 = .ok (.bipush 6, 2) := by decide +kernel
theorem dX6_wouldDrop_4 : decode cX6_wouldDrop 4 = .ok (.invokevirtual 105, 3) := by decide +kernel
theorem dX6_wouldDrop_7 : decode cX6_wouldDrop 7 = .ok (.aload_n 0, 1) := by decide +kernel
theorem dX6_wouldDrop_8 : decode cX6_wouldDrop 8 = .ok (.sipush 924, 3) := by decide +kernel
theorem dX6_wouldDrop_11 : decode cX6_wouldDrop 11 = .ok (.iload_n 1, 1) := by decide +kernel
theorem dX6_wouldDrop_12 : decode cX6_wouldDrop 12 = .ok (.invokevirtual 121, 3) := by decide +kernel
theorem dX6_wouldDrop_15 : decode cX6_wouldDrop 15 = .ok (.ireturn, 1) := by decide +kernel
set_option maxRecDepth 20000 in
theorem ggX6_reachable_X6_isLine : GoodIn wsX6_reachable wsX6_isLine := goodIn_r _ [6, 7, 8, 9, 5, 10, 1, 11, 12, 13, 41, 42, 43, 44, 45, 46, 47, 48, 49, 50, 51, 52] (by decide +kernel) (by decide +kernel)
set_option maxRecDepth 20000 in
theorem gX6_reachable_X6_isLine : GoodIn wsX6_reachable (wsV RX6 78 RX6 yX6_isLine wsX6_isLine) := goodIn_app (goodIn_of _ (by decide +kernel)) ggX6_reachable_X6_isLine
set_option maxRecDepth 20000 in
theorem ggX6_reachable_X6_of : GoodIn wsX6_reachable wsX6_of := goodIn_r _ [17, 1, 41, 42, 43, 44, 45, 46, 47, 48, 49, 50, 51, 52] (by decide +kernel) (by decide +kernel)
set_option maxRecDepth 20000 in
theorem gX6_reachable_X6_of : GoodIn wsX6_reachable (wsV RX6 41 RX6 yX6_of wsX6_of) := goodIn_app (goodIn_of _ (by decide +kernel)) ggX6_reachable_X6_of
set_option maxRecDepth 20000 in
theorem ggX6_reachable_X6_freeAhead : GoodIn wsX6_reachable wsX6_freeAhead := goodIn_r _ [21, 1, 22, 23, 5, 24, 25, 26, 27, 28, 7, 8, 9, 10, 14, 15, 16, 17, 41, 42, 43, 44, 45, 46, 47, 48, 49, 50, 51, 52] (by decide +kernel) (by decide +kernel)
set_option maxRecDepth 20000 in
theorem gX6_reachable_X6_freeAhead : GoodIn wsX6_reachable (wsV RX6 62 RX6 yX6_freeAhead wsX6_freeAhead) := goodIn_app (goodIn_of _ (by decide +kernel)) ggX6_reachable_X6_freeAhead
set_option maxRecDepth 20000 in
theorem ggX6_reachable_X6_lines : GoodIn wsX6_reachable wsX6_lines := goodIn_r _ [10, 1, 41, 42, 43, 44, 45, 46, 47, 48, 49, 50, 51, 52] (by decide +kernel) (by decide +kernel)
set_option maxRecDepth 20000 in
theorem gX6_reachable_X6_lines : GoodIn wsX6_reachable (wsV RX6 30 RX6 yX6_lines wsX6_lines) := goodIn_app (goodIn_of _ (by decide +kernel)) ggX6_reachable_X6_lines
set_option maxRecDepth 20000 in
theorem ggX6_reachable_X6_inletTo : GoodIn wsX6_reachable wsX6_inletTo := goodIn_r _ [32, 7, 8, 9, 5, 10, 1, 14, 15, 16, 17, 41, 42, 43, 44, 45, 46, 47, 48, 49, 50, 51, 52] (by decide +kernel) (by decide +kernel)
set_option maxRecDepth 20000 in
theorem gX6_reachable_X6_inletTo : GoodIn wsX6_reachable (wsV RX6 81 RX6 yX6_inletTo wsX6_inletTo) := goodIn_app (goodIn_of _ (by decide +kernel)) ggX6_reachable_X6_inletTo
set_option maxRecDepth 20000 in
theorem ggX6_reachable_X6_freeBehind : GoodIn wsX6_reachable wsX6_freeBehind := goodIn_r _ [36, 1, 22, 23, 5, 24, 37, 38, 39, 40, 7, 8, 9, 10, 14, 15, 16, 17, 41, 42, 43, 44, 45, 46, 47, 48, 49, 50, 51, 52] (by decide +kernel) (by decide +kernel)
set_option maxRecDepth 20000 in
theorem gX6_reachable_X6_freeBehind : GoodIn wsX6_reachable (wsV RX6 65 RX6 yX6_freeBehind wsX6_freeBehind) := goodIn_app (goodIn_of _ (by decide +kernel)) ggX6_reachable_X6_freeBehind
theorem dX6_reachable_0 : decode cX6_reachable 0 = .ok (.aload_n 0, 1) := by decide +kernel
theorem dX6_reachable_1 : decode cX6_reachable 1 = .ok (.iconst 0, 1) := by decide +kernel
theorem dX6_reachable_2 : decode cX6_reachable 2 = .ok (.iload_n 1, 1) := by decide +kernel
theorem dX6_reachable_3 : decode cX6_reachable 3 = .ok (.invokevirtual 78, 3) := by decide +kernel
theorem dX6_reachable_6 : decode cX6_reachable 6 = .ok (.ifCond .ne 5, 3) := by decide +kernel
theorem dX6_reachable_9 : decode cX6_reachable 9 = .ok (.iconst (-1), 1) := by decide +kernel
theorem dX6_reachable_10 : decode cX6_reachable 10 = .ok (.ireturn, 1) := by decide +kernel
theorem dX6_reachable_11 : decode cX6_reachable 11 = .ok (.aload_n 0, 1) := by decide +kernel
theorem dX6_reachable_12 : decode cX6_reachable 12 = .ok (.iconst 0, 1) := by decide +kernel
theorem dX6_reachable_13 : decode cX6_reachable 13 = .ok (.iload_n 1, 1) := by decide +kernel
theorem dX6_reachable_14 : decode cX6_reachable 14 = .ok (.iconst 0, 1) := by decide +kernel
theorem dX6_reachable_15 : decode cX6_reachable 15 = .ok (.invokevirtual 41, 3) := by decide +kernel
theorem dX6_reachable_18 : decode cX6_reachable 18 = .ok (.iconst (-1), 1) := by decide +kernel
theorem dX6_reachable_19 : decode cX6_reachable 19 = .ok (.if_icmp .eq 6, 3) := by decide +kernel
theorem dX6_reachable_22 : decode cX6_reachable 22 = .ok (.bipush (-3), 2) := by decide +kernel
theorem dX6_reachable_24 : decode cX6_reachable 24 = .ok (.ireturn, 1) := by decide +kernel
theorem dX6_reachable_25 : decode cX6_reachable 25 = .ok (.aload_n 0, 1) := by decide +kernel
theorem dX6_reachable_26 : decode cX6_reachable 26 = .ok (.iconst 0, 1) := by decide +kernel
theorem dX6_reachable_27 : decode cX6_reachable 27 = .ok (.iload_n 1, 1) := by decide +kernel
theorem dX6_reachable_28 : decode cX6_reachable 28 = .ok (.aload_n 0, 1) := by decide +kernel
theorem dX6_reachable_29 : decode cX6_reachable 29 = .ok (.getfield 7, 3) := by decide +kernel
theorem dX6_reachable_32 : decode cX6_reachable 32 = .ok (.iconst 1, 1) := by decide +kernel
theorem dX6_reachable_33 : decode cX6_reachable 33 = .ok (.iaload, 1) := by decide +kernel
theorem dX6_reachable_34 : decode cX6_reachable 34 = .ok (.idiv, 1) := by decide +kernel
theorem dX6_reachable_35 : decode cX6_reachable 35 = .ok (.invokevirtual 62, 3) := by decide +kernel
theorem dX6_reachable_38 : decode cX6_reachable 38 = .ok (.istore_n 2, 1) := by decide +kernel
theorem dX6_reachable_39 : decode cX6_reachable 39 = .ok (.iconst 0, 1) := by decide +kernel
theorem dX6_reachable_40 : decode cX6_reachable 40 = .ok (.istore_n 3, 1) := by decide +kernel
theorem dX6_reachable_41 : decode cX6_reachable 41 = .ok (.iconst 0, 1) := by decide +kernel
theorem dX6_reachable_42 : decode cX6_reachable 42 = .ok (.istore 4, 2) := by decide +kernel
theorem dX6_reachable_44 : decode cX6_reachable 44 = .ok (.iload 4, 2) := by decide +kernel
theorem dX6_reachable_46 : decode cX6_reachable 46 = .ok (.aload_n 0, 1) := by decide +kernel
theorem dX6_reachable_47 : decode cX6_reachable 47 = .ok (.iconst 0, 1) := by decide +kernel
theorem dX6_reachable_48 : decode cX6_reachable 48 = .ok (.invokevirtual 30, 3) := by decide +kernel
theorem dX6_reachable_51 : decode cX6_reachable 51 = .ok (.if_icmp .ge 59, 3) := by decide +kernel
theorem dX6_reachable_54 : decode cX6_reachable 54 = .ok (.aload_n 0, 1) := by decide +kernel
theorem dX6_reachable_55 : decode cX6_reachable 55 = .ok (.iconst 0, 1) := by decide +kernel
theorem dX6_reachable_56 : decode cX6_reachable 56 = .ok (.iload 4, 2) := by decide +kernel
theorem dX6_reachable_58 : decode cX6_reachable 58 = .ok (.invokevirtual 81, 3) := by decide +kernel
theorem dX6_reachable_61 : decode cX6_reachable 61 = .ok (.iconst (-1), 1) := by decide +kernel
theorem dX6_reachable_62 : decode cX6_reachable 62 = .ok (.if_icmp .ne 26, 3) := by decide +kernel
theorem dX6_reachable_65 : decode cX6_reachable 65 = .ok (.iload_n 2, 1) := by decide +kernel
theorem dX6_reachable_66 : decode cX6_reachable 66 = .ok (.aload_n 0, 1) := by decide +kernel
theorem dX6_reachable_67 : decode cX6_reachable 67 = .ok (.iconst 0, 1) := by decide +kernel
theorem dX6_reachable_68 : decode cX6_reachable 68 = .ok (.iload 4, 2) := by decide +kernel
theorem dX6_reachable_70 : decode cX6_reachable 70 = .ok (.aload_n 0, 1) := by decide +kernel
theorem dX6_reachable_71 : decode cX6_reachable 71 = .ok (.getfield 7, 3) := by decide +kernel
theorem dX6_reachable_74 : decode cX6_reachable 74 = .ok (.iconst 1, 1) := by decide +kernel
theorem dX6_reachable_75 : decode cX6_reachable 75 = .ok (.iaload, 1) := by decide +kernel
theorem dX6_reachable_76 : decode cX6_reachable 76 = .ok (.idiv, 1) := by decide +kernel
theorem dX6_reachable_77 : decode cX6_reachable 77 = .ok (.invokevirtual 65, 3) := by decide +kernel
theorem dX6_reachable_80 : decode cX6_reachable 80 = .ok (.iand, 1) := by decide +kernel
theorem dX6_reachable_81 : decode cX6_reachable 81 = .ok (.ifCond .eq 7, 3) := by decide +kernel
theorem dX6_reachable_84 : decode cX6_reachable 84 = .ok (.iconst 1, 1) := by decide +kernel
theorem dX6_reachable_85 : decode cX6_reachable 85 = .ok (.goto 4, 3) := by decide +kernel
theorem dX6_reachable_88 : decode cX6_reachable 88 = .ok (.iconst 0, 1) := by decide +kernel
theorem dX6_reachable_89 : decode cX6_reachable 89 = .ok (.istore 5, 2) := by decide +kernel
theorem dX6_reachable_91 : decode cX6_reachable 91 = .ok (.iload_n 3, 1) := by decide +kernel
theorem dX6_reachable_92 : decode cX6_reachable 92 = .ok (.iload 5, 2) := by decide +kernel
theorem dX6_reachable_94 : decode cX6_reachable 94 = .ok (.ifCond .eq 7, 3) := by decide +kernel
theorem dX6_reachable_97 : decode cX6_reachable 97 = .ok (.iconst 1, 1) := by decide +kernel
theorem dX6_reachable_98 : decode cX6_reachable 98 = .ok (.goto 4, 3) := by decide +kernel
theorem dX6_reachable_101 : decode cX6_reachable 101 = .ok (.iconst 0, 1) := by decide +kernel
theorem dX6_reachable_102 : decode cX6_reachable 102 = .ok (.iadd, 1) := by decide +kernel
theorem dX6_reachable_103 : decode cX6_reachable 103 = .ok (.istore_n 3, 1) := by decide +kernel
theorem dX6_reachable_104 : decode cX6_reachable 104 = .ok (.iinc 4 1, 3) := by decide +kernel
theorem dX6_reachable_107 : decode cX6_reachable 107 = .ok (.goto (-63), 3) := by decide +kernel
theorem dX6_reachable_110 : decode cX6_reachable 110 = .ok (.iload_n 3, 1) := by decide +kernel
theorem dX6_reachable_111 : decode cX6_reachable 111 = .ok (.ireturn, 1) := by decide +kernel
