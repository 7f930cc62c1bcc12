theorem dL_cell_0 : decode cL_cell 0 = .ok (.iload_n 1, 1) := by decide +kernel
theorem dL_cell_1 : decode cL_cell 1 = .ok (.aload_n 0, 1) := by decide +kernel
theorem dL_cell_2 : decode cL_cell 2 = .ok (.arraylength, 1) := by decide +kernel
theorem dL_cell_3 : decode cL_cell 3 = .ok (.if_icmp .ge 9, 3) := by decide +kernel
theorem dL_cell_6 : decode cL_cell 6 = .ok (.aload_n 0, 1) := by decide +kernel
theorem dL_cell_7 : decode cL_cell 7 = .ok (.iload_n 1, 1) := by decide +kernel
theorem dL_cell_8 : decode cL_cell 8 = .ok (.iaload, 1) := by decide +kernel
theorem dL_cell_9 : decode cL_cell 9 = .ok (.goto 10, 3) := by decide +kernel
theorem dL_cell_12 : decode cL_cell 12 = .ok (.ldc 7, 2) := by decide +kernel
theorem dL_cell_14 : decode cL_cell 14 = .ok (.iload_n 1, 1) := by decide +kernel
theorem dL_cell_15 : decode cL_cell 15 = .ok (.bipush 17, 2) := by decide +kernel
theorem dL_cell_17 : decode cL_cell 17 = .ok (.iadd, 1) := by decide +kernel
theorem dL_cell_18 : decode cL_cell 18 = .ok (.imul, 1) := by decide +kernel
theorem dL_cell_19 : decode cL_cell 19 = .ok (.ireturn, 1) := by decide +kernel
theorem dL_up_0 : decode cL_up 0 = .ok (.iload_n 0, 1) := by decide +kernel
theorem dL_up_1 : decode cL_up 1 = .ok (.ldc 8, 2) := by decide +kernel
theorem dL_up_3 : decode cL_up 3 = .ok (.iand, 1) := by decide +kernel
theorem dL_up_4 : decode cL_up 4 = .ok (.iload_n 1, 1) := by decide +kernel
theorem dL_up_5 : decode cL_up 5 = .ok (.irem, 1) := by decide +kernel
theorem dL_up_6 : decode cL_up 6 = .ok (.ireturn, 1) := by decide +kernel
theorem dL_bits_0 : decode cL_bits 0 = .ok (.iconst 0, 1) := by decide +kernel
theorem dL_bits_1 : decode cL_bits 1 = .ok (.istore_n 1, 1) := by decide +kernel
theorem dL_bits_2 : decode cL_bits 2 = .ok (.iconst 0, 1) := by decide +kernel
theorem dL_bits_3 : decode cL_bits 3 = .ok (.istore_n 2, 1) := by decide +kernel
theorem dL_bits_4 : decode cL_bits 4 = .ok (.iload_n 2, 1) := by decide +kernel
theorem dL_bits_5 : decode cL_bits 5 = .ok (.bipush 8, 2) := by decide +kernel
theorem dL_bits_7 : decode cL_bits 7 = .ok (.if_icmp .ge 17, 3) := by decide +kernel
theorem dL_bits_10 : decode cL_bits 10 = .ok (.iload_n 1, 1) := by decide +kernel
theorem dL_bits_11 : decode cL_bits 11 = .ok (.iload_n 0, 1) := by decide +kernel
theorem dL_bits_12 : decode cL_bits 12 = .ok (.iload_n 2, 1) := by decide +kernel
theorem dL_bits_13 : decode cL_bits 13 = .ok (.ishr, 1) := by decide +kernel
theorem dL_bits_14 : decode cL_bits 14 = .ok (.iconst 1, 1) := by decide +kernel
theorem dL_bits_15 : decode cL_bits 15 = .ok (.iand, 1) := by decide +kernel
theorem dL_bits_16 : decode cL_bits 16 = .ok (.iadd, 1) := by decide +kernel
theorem dL_bits_17 : decode cL_bits 17 = .ok (.istore_n 1, 1) := by decide +kernel
theorem dL_bits_18 : decode cL_bits 18 = .ok (.iinc 2 1, 3) := by decide +kernel
theorem dL_bits_21 : decode cL_bits 21 = .ok (.goto (-17), 3) := by decide +kernel
theorem dL_bits_24 : decode cL_bits 24 = .ok (.iload_n 1, 1) := by decide +kernel
theorem dL_bits_25 : decode cL_bits 25 = .ok (.ireturn, 1) := by decide +kernel
set_option maxRecDepth 100000 in
theorem ggL_ends_X5_total : GoodIn wsL_ends wsX5_total := goodIn_r _ [7, 8, 9, 10, 11, 12, 13, 14, 15, 16, 17, 18, 19, 20, 21, 22, 23, 24, 25, 26, 27, 28, 29, 30, 31, 32, 33, 55, 56, 57, 58, 59, 60, 61, 62, 63, 64, 65, 66, 67, 68, 69, 70, 71, 72, 73, 74, 75, 76, 77, 78, 79, 80, 81, 82, 83, 84, 85, 86, 87, 88] rfl (by decide +kernel)
set_option maxRecDepth 100000 in
theorem gL_ends_X5_total : GoodIn wsL_ends (wsV RL 11 RX5 yX5_total wsX5_total) := goodIn_app (goodIn_of _ (by decide +kernel)) ggL_ends_X5_total
set_option maxRecDepth 100000 in
theorem ggL_ends_X5_callOfInlet : GoodIn wsL_ends wsX5_callOfInlet := goodIn_r _ [37, 8, 38, 39, 40, 41, 25, 42, 43, 44, 45, 29, 30, 31, 32, 33, 55, 56, 57, 58, 59, 60, 61, 62, 63, 64, 65, 66, 67, 68, 69, 70, 71, 72, 73, 74, 75, 76, 77, 78, 88] rfl (by decide +kernel)
set_option maxRecDepth 100000 in
theorem gL_ends_X5_callOfInlet : GoodIn wsL_ends (wsV RL 17 RX5 yX5_callOfInlet wsX5_callOfInlet) := goodIn_app (goodIn_of _ (by decide +kernel)) ggL_ends_X5_callOfInlet
set_option maxRecDepth 100000 in
theorem ggL_ends_X5_outletOf : GoodIn wsL_ends wsX5_outletOf := goodIn_r _ [49, 8, 50, 51, 52, 53, 25, 54, 27, 28, 29, 30, 31, 32, 33, 45, 55, 56, 57, 58, 59, 60, 61, 62, 63, 64, 65, 66, 67, 68, 69, 70, 71, 72, 73, 74, 75, 76, 77, 78, 88] rfl (by decide +kernel)
set_option maxRecDepth 100000 in
theorem gL_ends_X5_outletOf : GoodIn wsL_ends (wsV RL 22 RX5 yX5_outletOf wsX5_outletOf) := goodIn_app (goodIn_of _ (by decide +kernel)) ggL_ends_X5_outletOf
theorem dL_ends_0 : decode cL_ends 0 = .ok (.ldc2_w 9, 3) := by decide +kernel
theorem dL_ends_3 : decode cL_ends 3 = .ok (.lstore_n 2, 1) := by decide +kernel
theorem dL_ends_4 : decode cL_ends 4 = .ok (.iconst 0, 1) := by decide +kernel
theorem dL_ends_5 : decode cL_ends 5 = .ok (.istore 4, 2) := by decide +kernel
theorem dL_ends_7 : decode cL_ends 7 = .ok (.iload 4, 2) := by decide +kernel
theorem dL_ends_9 : decode cL_ends 9 = .ok (.aload_n 0, 1) := by decide +kernel
theorem dL_ends_10 : decode cL_ends 10 = .ok (.iconst 0, 1) := by decide +kernel
theorem dL_ends_11 : decode cL_ends 11 = .ok (.invokevirtual 11, 3) := by decide +kernel
theorem dL_ends_14 : decode cL_ends 14 = .ok (.aload_n 0, 1) := by decide +kernel
theorem dL_ends_15 : decode cL_ends 15 = .ok (.iconst 1, 1) := by decide +kernel
theorem dL_ends_16 : decode cL_ends 16 = .ok (.invokevirtual 11, 3) := by decide +kernel
theorem dL_ends_19 : decode cL_ends 19 = .ok (.imul, 1) := by decide +kernel
theorem dL_ends_20 : decode cL_ends 20 = .ok (.if_icmp .ge 49, 3) := by decide +kernel
theorem dL_ends_23 : decode cL_ends 23 = .ok (.aload_n 0, 1) := by decide +kernel
theorem dL_ends_24 : decode cL_ends 24 = .ok (.iload 4, 2) := by decide +kernel
theorem dL_ends_26 : decode cL_ends 26 = .ok (.invokevirtual 17, 3) := by decide +kernel
theorem dL_ends_29 : decode cL_ends 29 = .ok (.istore 5, 2) := by decide +kernel
theorem dL_ends_31 : decode cL_ends 31 = .ok (.iload 4, 2) := by decide +kernel
theorem dL_ends_33 : decode cL_ends 33 = .ok (.iload_n 1, 1) := by decide +kernel
theorem dL_ends_34 : decode cL_ends 34 = .ok (.if_icmp .ne 7, 3) := by decide +kernel
theorem dL_ends_37 : decode cL_ends 37 = .ok (.lload_n 2, 1) := by decide +kernel
theorem dL_ends_38 : decode cL_ends 38 = .ok (.goto 24, 3) := by decide +kernel
theorem dL_ends_41 : decode cL_ends 41 = .ok (.ldc2_w 20, 3) := by decide +kernel
theorem dL_ends_44 : decode cL_ends 44 = .ok (.ldc2_w 20, 3) := by decide +kernel
theorem dL_ends_47 : decode cL_ends 47 = .ok (.lload_n 2, 1) := by decide +kernel
theorem dL_ends_48 : decode cL_ends 48 = .ok (.lmul, 1) := by decide +kernel
theorem dL_ends_49 : decode cL_ends 49 = .ok (.iload 5, 2) := by decide +kernel
theorem dL_ends_51 : decode cL_ends 51 = .ok (.i2l, 1) := by decide +kernel
theorem dL_ends_52 : decode cL_ends 52 = .ok (.ladd, 1) := by decide +kernel
theorem dL_ends_53 : decode cL_ends 53 = .ok (.lmul, 1) := by decide +kernel
theorem dL_ends_54 : decode cL_ends 54 = .ok (.aload_n 0, 1) := by decide +kernel
theorem dL_ends_55 : decode cL_ends 55 = .ok (.iload 5, 2) := by decide +kernel
theorem dL_ends_57 : decode cL_ends 57 = .ok (.invokevirtual 22, 3) := by decide +kernel
theorem dL_ends_60 : decode cL_ends 60 = .ok (.i2l, 1) := by decide +kernel
theorem dL_ends_61 : decode cL_ends 61 = .ok (.ladd, 1) := by decide +kernel
theorem dL_ends_62 : decode cL_ends 62 = .ok (.lstore_n 2, 1) := by decide +kernel
theorem dL_ends_63 : decode cL_ends 63 = .ok (.iinc 4 1, 3) := by decide +kernel
theorem dL_ends_66 : decode cL_ends 66 = .ok (.goto (-59), 3) := by decide +kernel
theorem dL_ends_69 : decode cL_ends 69 = .ok (.lload_n 2, 1) := by decide +kernel
theorem dL_ends_70 : decode cL_ends 70 = .ok (.lreturn, 1) := by decide +kernel
set_option maxRecDepth 100000 in
theorem ggL_told_L_ends : GoodIn wsL_told wsL_ends := goodIn_r _ [5, 6, 1, 7, 8, 9, 10, 11, 12, 13, 14, 15, 16, 17, 18, 19, 20, 21, 22, 23, 24, 25, 26, 27, 28, 29, 30, 31, 32, 33, 34, 35, 36, 37, 38, 39, 40, 41, 42, 43, 44, 45, 46, 47, 48, 49, 50, 51, 52, 53, 54, 55, 56, 57, 58, 69, 70, 71, 72, 73, 74, 75, 76, 77, 78, 79, 80, 81, 82, 83, 84, 85, 86, 87, 88, 89, 90, 91, 92, 93, 94, 95, 96, 97, 98, 99, 100, 101, 102] rfl (by decide +kernel)
set_option maxRecDepth 100000 in
theorem gL_told_L_ends : GoodIn wsL_told (va_wsS RL 25 yL_ends wsL_ends) := goodIn_app (goodIn_of _ (by decide +kernel)) ggL_told_L_ends
set_option maxRecDepth 100000 in
theorem ggL_told_X5_inService : GoodIn wsL_told wsX5_inService := goodIn_r _ [62, 12, 63, 69, 70, 71, 72, 73, 74, 75, 76, 77, 78, 79, 80, 81, 82, 83, 84, 85, 86, 87, 88, 89, 90, 91, 92] rfl (by decide +kernel)
set_option maxRecDepth 100000 in
theorem gL_told_X5_inService : GoodIn wsL_told (wsV RL 31 RX5 yX5_inService wsX5_inService) := goodIn_app (goodIn_of _ (by decide +kernel)) ggL_told_X5_inService
set_option maxRecDepth 100000 in
theorem ggL_told_X5_total : GoodIn wsL_told wsX5_total := goodIn_r _ [11, 12, 13, 14, 15, 16, 17, 18, 19, 20, 21, 22, 23, 24, 25, 26, 27, 28, 29, 30, 31, 32, 33, 34, 35, 36, 37, 69, 70, 71, 72, 73, 74, 75, 76, 77, 78, 79, 80, 81, 82, 83, 84, 85, 86, 87, 88, 89, 90, 91, 92, 93, 94, 95, 96, 97, 98, 99, 100, 101, 102] rfl (by decide +kernel)
set_option maxRecDepth 100000 in
theorem gL_told_X5_total : GoodIn wsL_told (wsV RL 11 RX5 yX5_total wsX5_total) := goodIn_app (goodIn_of _ (by decide +kernel)) ggL_told_X5_total
set_option maxRecDepth 100000 in
theorem ggL_told_X5_callOfInlet : GoodIn wsL_told wsX5_callOfInlet := goodIn_r _ [41, 12, 42, 43, 44, 45, 29, 46, 47, 48, 49, 33, 34, 35, 36, 37, 69, 70, 71, 72, 73, 74, 75, 76, 77, 78, 79, 80, 81, 82, 83, 84, 85, 86, 87, 88, 89, 90, 91, 92, 102] rfl (by decide +kernel)
set_option maxRecDepth 100000 in
theorem gL_told_X5_callOfInlet : GoodIn wsL_told (wsV RL 17 RX5 yX5_callOfInlet wsX5_callOfInlet) := goodIn_app (goodIn_of _ (by decide +kernel)) ggL_told_X5_callOfInlet
set_option maxRecDepth 100000 in
theorem ggL_told_X5_middleOf : GoodIn wsL_told wsX5_middleOf := goodIn_r _ [67, 12, 68, 55, 56, 57, 29, 58, 31, 32, 33, 34, 35, 36, 37, 49, 69, 70, 71, 72, 73, 74, 75, 76, 77, 78, 79, 80, 81, 82, 83, 84, 85, 86, 87, 88, 89, 90, 91, 92, 102] rfl (by decide +kernel)
set_option maxRecDepth 100000 in
theorem gL_told_X5_middleOf : GoodIn wsL_told (wsV RL 35 RX5 yX5_middleOf wsX5_middleOf) := goodIn_app (goodIn_of _ (by decide +kernel)) ggL_told_X5_middleOf
theorem dL_told_0 : decode cL_told 0 = .ok (.ldc2_w 20, 3) := by decide +kernel
theorem dL_told_3 : decode cL_told 3 = .ok (.aload_n 0, 1) := by decide +kernel
theorem dL_told_4 : decode cL_told 4 = .ok (.iconst (-1), 1) := by decide +kernel
theorem dL_told_5 : decode cL_told 5 = .ok (.invokestatic 25, 3) := by decide +kernel
theorem dL_told_8 : decode cL_told 8 = .ok (.lmul, 1) := by decide +kernel
theorem dL_told_9 : decode cL_told 9 = .ok (.aload_n 0, 1) := by decide +kernel
theorem dL_told_10 : decode cL_told 10 = .ok (.invokevirtual 31, 3) := by decide +kernel
theorem dL_told_13 : decode cL_told 13 = .ok (.i2l, 1) := by decide +kernel
theorem dL_told_14 : decode cL_told 14 = .ok (.ladd, 1) := by decide +kernel
theorem dL_told_15 : decode cL_told 15 = .ok (.lstore_n 1, 1) := by decide +kernel
theorem dL_told_16 : decode cL_told 16 = .ok (.iconst 0, 1) := by decide +kernel
theorem dL_told_17 : decode cL_told 17 = .ok (.istore_n 3, 1) := by decide +kernel
theorem dL_told_18 : decode cL_told 18 = .ok (.iload_n 3, 1) := by decide +kernel
theorem dL_told_19 : decode cL_told 19 = .ok (.bipush 10, 2) := by decide +kernel
theorem dL_told_21 : decode cL_told 21 = .ok (.if_icmp .ge 22, 3) := by decide +kernel
theorem dL_told_24 : decode cL_told 24 = .ok (.ldc2_w 20, 3) := by decide +kernel
theorem dL_told_27 : decode cL_told 27 = .ok (.lload_n 1, 1) := by decide +kernel
theorem dL_told_28 : decode cL_told 28 = .ok (.lmul, 1) := by decide +kernel
theorem dL_told_29 : decode cL_told 29 = .ok (.aload_n 0, 1) := by decide +kernel
theorem dL_told_30 : decode cL_told 30 = .ok (.iload_n 3, 1) := by decide +kernel
theorem dL_told_31 : decode cL_told 31 = .ok (.invokevirtual 11, 3) := by decide +kernel
theorem dL_told_34 : decode cL_told 34 = .ok (.i2l, 1) := by decide +kernel
theorem dL_told_35 : decode cL_told 35 = .ok (.ladd, 1) := by decide +kernel
theorem dL_told_36 : decode cL_told 36 = .ok (.lstore_n 1, 1) := by decide +kernel
theorem dL_told_37 : decode cL_told 37 = .ok (.iinc 3 1, 3) := by decide +kernel
theorem dL_told_40 : decode cL_told 40 = .ok (.goto (-22), 3) := by decide +kernel
theorem dL_told_43 : decode cL_told 43 = .ok (.iconst 0, 1) := by decide +kernel
theorem dL_told_44 : decode cL_told 44 = .ok (.istore_n 3, 1) := by decide +kernel
theorem dL_told_45 : decode cL_told 45 = .ok (.iload_n 3, 1) := by decide +kernel
theorem dL_told_46 : decode cL_told 46 = .ok (.aload_n 0, 1) := by decide +kernel
theorem dL_told_47 : decode cL_told 47 = .ok (.iconst 0, 1) := by decide +kernel
theorem dL_told_48 : decode cL_told 48 = .ok (.invokevirtual 11, 3) := by decide +kernel
theorem dL_told_51 : decode cL_told 51 = .ok (.aload_n 0, 1) := by decide +kernel
theorem dL_told_52 : decode cL_told 52 = .ok (.iconst 1, 1) := by decide +kernel
theorem dL_told_53 : decode cL_told 53 = .ok (.invokevirtual 11, 3) := by decide +kernel
theorem dL_told_56 : decode cL_told 56 = .ok (.imul, 1) := by decide +kernel
theorem dL_told_57 : decode cL_told 57 = .ok (.if_icmp .ge 26, 3) := by decide +kernel
theorem dL_told_60 : decode cL_told 60 = .ok (.ldc2_w 20, 3) := by decide +kernel
theorem dL_told_63 : decode cL_told 63 = .ok (.lload_n 1, 1) := by decide +kernel
theorem dL_told_64 : decode cL_told 64 = .ok (.lmul, 1) := by decide +kernel
theorem dL_told_65 : decode cL_told 65 = .ok (.aload_n 0, 1) := by decide +kernel
theorem dL_told_66 : decode cL_told 66 = .ok (.aload_n 0, 1) := by decide +kernel
theorem dL_told_67 : decode cL_told 67 = .ok (.iload_n 3, 1) := by decide +kernel
theorem dL_told_68 : decode cL_told 68 = .ok (.invokevirtual 17, 3) := by decide +kernel
theorem dL_told_71 : decode cL_told 71 = .ok (.invokevirtual 35, 3) := by decide +kernel
theorem dL_told_74 : decode cL_told 74 = .ok (.i2l, 1) := by decide +kernel
theorem dL_told_75 : decode cL_told 75 = .ok (.ladd, 1) := by decide +kernel
theorem dL_told_76 : decode cL_told 76 = .ok (.lstore_n 1, 1) := by decide +kernel
theorem dL_told_77 : decode cL_told 77 = .ok (.iinc 3 1, 3) := by decide +kernel
theorem dL_told_80 : decode cL_told 80 = .ok (.goto (-35), 3) := by decide +kernel
theorem dL_told_83 : decode cL_told 83 = .ok (.lload_n 1, 1) := by decide +kernel
theorem dL_told_84 : decode cL_told 84 = .ok (.lreturn, 1) := by decide +kernel
