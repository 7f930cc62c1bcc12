set_option maxRecDepth 20000 in
theorem ggX6_init_X6_builds : GoodIn wsX6_init wsX6_builds := goodIn_r _ [13, 5, 14, 15, 16, 12, 17, 18, 19, 20, 21, 22, 23, 24, 25, 26, 27, 28, 29] (by decide +kernel) (by decide +kernel)
set_option maxRecDepth 20000 in
theorem gX6_init_X6_builds : GoodIn wsX6_init (wsV RX6 22 RX6 yX6_builds wsX6_builds) := goodIn_app (goodIn_of _ (by decide +kernel)) ggX6_init_X6_builds
theorem dX6_init_0 : decode cX6_init 0 = .ok (.aload_n 0, 1) := by decide +kernel
theorem dX6_init_1 : decode cX6_init 1 = .ok (.invokespecial 1, 3) := by decide +kernel
theorem dX6_init_4 : decode cX6_init 4 = .ok (.aload_n 0, 1) := by decide +kernel
theorem dX6_init_5 : decode cX6_init 5 = .ok (.sipush 1078, 3) := by decide +kernel
theorem dX6_init_8 : decode cX6_init 8 = .ok (.newarray .int, 2) := by decide +kernel
theorem dX6_init_10 : decode cX6_init 10 = .ok (.putfield 7, 3) := by decide +kernel
theorem dX6_init_13 : decode cX6_init 13 = .ok (.aload_n 0, 1) := by decide +kernel
theorem dX6_init_14 : decode cX6_init 14 = .ok (.bipush 60, 2) := by decide +kernel
theorem dX6_init_16 : decode cX6_init 16 = .ok (.newarray .int, 2) := by decide +kernel
theorem dX6_init_18 : decode cX6_init 18 = .ok (.putfield 13, 3) := by decide +kernel
theorem dX6_init_21 : decode cX6_init 21 = .ok (.aload_n 0, 1) := by decide +kernel
theorem dX6_init_22 : decode cX6_init 22 = .ok (.bipush 48, 2) := by decide +kernel
theorem dX6_init_24 : decode cX6_init 24 = .ok (.newarray .int, 2) := by decide +kernel
theorem dX6_init_26 : decode cX6_init 26 = .ok (.putfield 16, 3) := by decide +kernel
theorem dX6_init_29 : decode cX6_init 29 = .ok (.aload_n 0, 1) := by decide +kernel
theorem dX6_init_30 : decode cX6_init 30 = .ok (.bipush 48, 2) := by decide +kernel
theorem dX6_init_32 : decode cX6_init 32 = .ok (.newarray .int, 2) := by decide +kernel
theorem dX6_init_34 : decode cX6_init 34 = .ok (.putfield 19, 3) := by decide +kernel
theorem dX6_init_37 : decode cX6_init 37 = .ok (.aload_n 0, 1) := by decide +kernel
theorem dX6_init_38 : decode cX6_init 38 = .ok (.iconst 0, 1) := by decide +kernel
theorem dX6_init_39 : decode cX6_init 39 = .ok (.iconst 4, 1) := by decide +kernel
theorem dX6_init_40 : decode cX6_init 40 = .ok (.iconst 3, 1) := by decide +kernel
theorem dX6_init_41 : decode cX6_init 41 = .ok (.iconst 3, 1) := by decide +kernel
theorem dX6_init_42 : decode cX6_init 42 = .ok (.invokevirtual 22, 3) := by decide +kernel
theorem dX6_init_45 : decode cX6_init 45 = .ok (.return_, 1) := by decide +kernel
theorem dX6_in_0 : decode cX6_in 0 = .ok (.iload_n 0, 1) := by decide +kernel
theorem dX6_in_1 : decode cX6_in 1 = .ok (.iload_n 1, 1) := by decide +kernel
theorem dX6_in_2 : decode cX6_in 2 = .ok (.if_icmp .lt 12, 3) := by decide +kernel
theorem dX6_in_5 : decode cX6_in 5 = .ok (.iload_n 0, 1) := by decide +kernel
theorem dX6_in_6 : decode cX6_in 6 = .ok (.iload_n 2, 1) := by decide +kernel
theorem dX6_in_7 : decode cX6_in 7 = .ok (.if_icmp .gt 7, 3) := by decide +kernel
theorem dX6_in_10 : decode cX6_in 10 = .ok (.iconst 1, 1) := by decide +kernel
theorem dX6_in_11 : decode cX6_in 11 = .ok (.goto 4, 3) := by decide +kernel
theorem dX6_in_14 : decode cX6_in 14 = .ok (.iconst 0, 1) := by decide +kernel
theorem dX6_in_15 : decode cX6_in 15 = .ok (.ireturn, 1) := by decide +kernel
theorem dX6_has_0 : decode cX6_has 0 = .ok (.iload_n 0, 1) := by decide +kernel
theorem dX6_has_1 : decode cX6_has 1 = .ok (.iload_n 1, 1) := by decide +kernel
theorem dX6_has_2 : decode cX6_has 2 = .ok (.ishr, 1) := by decide +kernel
theorem dX6_has_3 : decode cX6_has 3 = .ok (.iconst 1, 1) := by decide +kernel
theorem dX6_has_4 : decode cX6_has 4 = .ok (.iand, 1) := by decide +kernel
theorem dX6_has_5 : decode cX6_has 5 = .ok (.iconst 1, 1) := by decide +kernel
theorem dX6_has_6 : decode cX6_has 6 = .ok (.if_icmp .ne 7, 3) := by decide +kernel
theorem dX6_has_9 : decode cX6_has 9 = .ok (.iconst 1, 1) := by decide +kernel
theorem dX6_has_10 : decode cX6_has 10 = .ok (.goto 4, 3) := by decide +kernel
theorem dX6_has_13 : decode cX6_has 13 = .ok (.iconst 0, 1) := by decide +kernel
theorem dX6_has_14 : decode cX6_has 14 = .ok (.ireturn, 1) := by decide +kernel
set_option maxRecDepth 20000 in
theorem ggX6_lowest_X6_has : GoodIn wsX6_lowest wsX6_has := goodIn_r _ [4] (by decide +kernel) (by decide +kernel)
set_option maxRecDepth 20000 in
theorem gX6_lowest_X6_has : GoodIn wsX6_lowest (va_wsS RX6 26 yX6_has wsX6_has) := goodIn_app (goodIn_of _ (by decide +kernel)) ggX6_lowest_X6_has
theorem dX6_lowest_0 : decode cX6_lowest 0 = .ok (.iconst 0, 1) := by decide +kernel
theorem dX6_lowest_1 : decode cX6_lowest 1 = .ok (.istore_n 1, 1) := by decide +kernel
theorem dX6_lowest_2 : decode cX6_lowest 2 = .ok (.iload_n 0, 1) := by decide +kernel
theorem dX6_lowest_3 : decode cX6_lowest 3 = .ok (.iload_n 1, 1) := by decide +kernel
theorem dX6_lowest_4 : decode cX6_lowest 4 = .ok (.invokestatic 26, 3) := by decide +kernel
theorem dX6_lowest_7 : decode cX6_lowest 7 = .ok (.ifCond .ne 9, 3) := by decide +kernel
theorem dX6_lowest_10 : decode cX6_lowest 10 = .ok (.iinc 1 1, 3) := by decide +kernel
theorem dX6_lowest_13 : decode cX6_lowest 13 = .ok (.goto (-11), 3) := by decide +kernel
theorem dX6_lowest_16 : decode cX6_lowest 16 = .ok (.iload_n 1, 1) := by decide +kernel
theorem dX6_lowest_17 : decode cX6_lowest 17 = .ok (.ireturn, 1) := by decide +kernel
theorem dX6_bits_0 : decode cX6_bits 0 = .ok (.iconst 0, 1) := by decide +kernel
theorem dX6_bits_1 : decode cX6_bits 1 = .ok (.istore_n 1, 1) := by decide +kernel
theorem dX6_bits_2 : decode cX6_bits 2 = .ok (.iconst 0, 1) := by decide +kernel
theorem dX6_bits_3 : decode cX6_bits 3 = .ok (.istore_n 2, 1) := by decide +kernel
theorem dX6_bits_4 : decode cX6_bits 4 = .ok (.iload_n 2, 1) := by decide +kernel
theorem dX6_bits_5 : decode cX6_bits 5 = .ok (.bipush 8, 2) := by decide +kernel
theorem dX6_bits_7 : decode cX6_bits 7 = .ok (.if_icmp .ge 17, 3) := by decide +kernel
theorem dX6_bits_10 : decode cX6_bits 10 = .ok (.iload_n 1, 1) := by decide +kernel
theorem dX6_bits_11 : decode cX6_bits 11 = .ok (.iload_n 0, 1) := by decide +kernel
theorem dX6_bits_12 : decode cX6_bits 12 = .ok (.iload_n 2, 1) := by decide +kernel
theorem dX6_bits_13 : decode cX6_bits 13 = .ok (.ishr, 1) := by decide +kernel
theorem dX6_bits_14 : decode cX6_bits 14 = .ok (.iconst 1, 1) := by decide +kernel
theorem dX6_bits_15 : decode cX6_bits 15 = .ok (.iand, 1) := by decide +kernel
theorem dX6_bits_16 : decode cX6_bits 16 = .ok (.iadd, 1) := by decide +kernel
theorem dX6_bits_17 : decode cX6_bits 17 = .ok (.istore_n 1, 1) := by decide +kernel
theorem dX6_bits_18 : decode cX6_bits 18 = .ok (.iinc 2 1, 3) := by decide +kernel
theorem dX6_bits_21 : decode cX6_bits 21 = .ok (.goto (-17), 3) := by decide +kernel
theorem dX6_bits_24 : decode cX6_bits 24 = .ok (.iload_n 1, 1) := by decide +kernel
theorem dX6_bits_25 : decode cX6_bits 25 = .ok (.ireturn, 1) := by decide +kernel
theorem dX6_of_0 : decode cX6_of 0 = .ok (.aload_n 0, 1) := by decide +kernel
theorem dX6_of_1 : decode cX6_of 1 = .ok (.getfield 7, 3) := by decide +kernel
theorem dX6_of_4 : decode cX6_of 4 = .ok (.iload_n 1, 1) := by decide +kernel
theorem dX6_of_5 : decode cX6_of 5 = .ok (.bipush 10, 2) := by decide +kernel
theorem dX6_of_7 : decode cX6_of 7 = .ok (.iadd, 1) := by decide +kernel
theorem dX6_of_8 : decode cX6_of 8 = .ok (.iconst 3, 1) := by decide +kernel
theorem dX6_of_9 : decode cX6_of 9 = .ok (.iload_n 2, 1) := by decide +kernel
theorem dX6_of_10 : decode cX6_of 10 = .ok (.imul, 1) := by decide +kernel
theorem dX6_of_11 : decode cX6_of 11 = .ok (.iadd, 1) := by decide +kernel
theorem dX6_of_12 : decode cX6_of 12 = .ok (.iload_n 3, 1) := by decide +kernel
theorem dX6_of_13 : decode cX6_of 13 = .ok (.iadd, 1) := by decide +kernel
theorem dX6_of_14 : decode cX6_of 14 = .ok (.iaload, 1) := by decide +kernel
theorem dX6_of_15 : decode cX6_of 15 = .ok (.ireturn, 1) := by decide +kernel
theorem dX6_lay_0 : decode cX6_lay 0 = .ok (.aload_n 0, 1) := by decide +kernel
theorem dX6_lay_1 : decode cX6_lay 1 = .ok (.getfield 7, 3) := by decide +kernel
theorem dX6_lay_4 : decode cX6_lay 4 = .ok (.iload_n 1, 1) := by decide +kernel
theorem dX6_lay_5 : decode cX6_lay 5 = .ok (.bipush 10, 2) := by decide +kernel
theorem dX6_lay_7 : decode cX6_lay 7 = .ok (.iadd, 1) := by decide +kernel
theorem dX6_lay_8 : decode cX6_lay 8 = .ok (.iconst 3, 1) := by decide +kernel
theorem dX6_lay_9 : decode cX6_lay 9 = .ok (.iload_n 2, 1) := by decide +kernel
theorem dX6_lay_10 : decode cX6_lay 10 = .ok (.imul, 1) := by decide +kernel
theorem dX6_lay_11 : decode cX6_lay 11 = .ok (.iadd, 1) := by decide +kernel
theorem dX6_lay_12 : decode cX6_lay 12 = .ok (.iload_n 3, 1) := by decide +kernel
theorem dX6_lay_13 : decode cX6_lay 13 = .ok (.iadd, 1) := by decide +kernel
theorem dX6_lay_14 : decode cX6_lay 14 = .ok (.iload 4, 2) := by decide +kernel
theorem dX6_lay_16 : decode cX6_lay 16 = .ok (.iastore, 1) := by decide +kernel
theorem dX6_lay_17 : decode cX6_lay 17 = .ok (.return_, 1) := by decide +kernel
theorem dX6_lines_0 : decode cX6_lines 0 = .ok (.aload_n 0, 1) := by decide +kernel
theorem dX6_lines_1 : decode cX6_lines 1 = .ok (.getfield 7, 3) := by decide +kernel
theorem dX6_lines_4 : decode cX6_lines 4 = .ok (.iload_n 1, 1) := by decide +kernel
theorem dX6_lines_5 : decode cX6_lines 5 = .ok (.iconst 0, 1) := by decide +kernel
theorem dX6_lines_6 : decode cX6_lines 6 = .ok (.iadd, 1) := by decide +kernel
theorem dX6_lines_7 : decode cX6_lines 7 = .ok (.iaload, 1) := by decide +kernel
theorem dX6_lines_8 : decode cX6_lines 8 = .ok (.aload_n 0, 1) := by decide +kernel
theorem dX6_lines_9 : decode cX6_lines 9 = .ok (.getfield 7, 3) := by decide +kernel
theorem dX6_lines_12 : decode cX6_lines 12 = .ok (.iload_n 1, 1) := by decide +kernel
theorem dX6_lines_13 : decode cX6_lines 13 = .ok (.iconst 1, 1) := by decide +kernel
theorem dX6_lines_14 : decode cX6_lines 14 = .ok (.iadd, 1) := by decide +kernel
theorem dX6_lines_15 : decode cX6_lines 15 = .ok (.iaload, 1) := by decide +kernel
theorem dX6_lines_16 : decode cX6_lines 16 = .ok (.imul, 1) := by decide +kernel
theorem dX6_lines_17 : decode cX6_lines 17 = .ok (.ireturn, 1) := by decide +kernel
set_option maxRecDepth 20000 in
theorem ggX6_isLine_X6_lines : GoodIn wsX6_isLine wsX6_lines := goodIn_r _ [5, 6, 10, 11, 12, 13, 14, 15, 16, 17, 18, 19, 20, 21] (by decide +kernel) (by decide +kernel)
set_option maxRecDepth 20000 in
theorem gX6_isLine_X6_lines : GoodIn wsX6_isLine (wsV RX6 30 RX6 yX6_lines wsX6_lines) := goodIn_app (goodIn_of _ (by decide +kernel)) ggX6_isLine_X6_lines
set_option maxRecDepth 20000 in
theorem ggX6_isLine_X6_in : GoodIn wsX6_isLine wsX6_in := goodIn_r _ [9] (by decide +kernel) (by decide +kernel)
set_option maxRecDepth 20000 in
theorem gX6_isLine_X6_in : GoodIn wsX6_isLine (va_wsS RX6 34 yX6_in wsX6_in) := goodIn_app (goodIn_of _ (by decide +kernel)) ggX6_isLine_X6_in
theorem dX6_isLine_0 : decode cX6_isLine 0 = .ok (.iload_n 2, 1) := by decide +kernel
theorem dX6_isLine_1 : decode cX6_isLine 1 = .ok (.iconst 0, 1) := by decide +kernel
theorem dX6_isLine_2 : decode cX6_isLine 2 = .ok (.aload_n 0, 1) := by decide +kernel
theorem dX6_isLine_3 : decode cX6_isLine 3 = .ok (.iload_n 1, 1) := by decide +kernel
theorem dX6_isLine_4 : decode cX6_isLine 4 = .ok (.invokevirtual 30, 3) := by decide +kernel
theorem dX6_isLine_7 : decode cX6_isLine 7 = .ok (.iconst 1, 1) := by decide +kernel
theorem dX6_isLine_8 : decode cX6_isLine 8 = .ok (.isub, 1) := by decide +kernel
theorem dX6_isLine_9 : decode cX6_isLine 9 = .ok (.invokestatic 34, 3) := by decide +kernel
theorem dX6_isLine_12 : decode cX6_isLine 12 = .ok (.ireturn, 1) := by decide +kernel
set_option maxRecDepth 20000 in
theorem ggX6_isBoard_X6_in : GoodIn wsX6_isBoard wsX6_in := goodIn_r _ [5] (by decide +kernel) (by decide +kernel)
set_option maxRecDepth 20000 in
theorem gX6_isBoard_X6_in : GoodIn wsX6_isBoard (va_wsS RX6 34 yX6_in wsX6_in) := goodIn_app (goodIn_of _ (by decide +kernel)) ggX6_isBoard_X6_in
theorem dX6_isBoard_0 : decode cX6_isBoard 0 = .ok (.iload_n 1, 1) := by decide +kernel
theorem dX6_isBoard_1 : decode cX6_isBoard 1 = .ok (.iconst 0, 1) := by decide +kernel
theorem dX6_isBoard_2 : decode cX6_isBoard 2 = .ok (.aload_n 0, 1) := by decide +kernel
theorem dX6_isBoard_3 : decode cX6_isBoard 3 = .ok (.getfield 7, 3) := by decide +kernel
theorem dX6_isBoard_6 : decode cX6_isBoard 6 = .ok (.iconst 0, 1) := by decide +kernel
theorem dX6_isBoard_7 : decode cX6_isBoard 7 = .ok (.iaload, 1) := by decide +kernel
theorem dX6_isBoard_8 : decode cX6_isBoard 8 = .ok (.iconst 1, 1) := by decide +kernel
theorem dX6_isBoard_9 : decode cX6_isBoard 9 = .ok (.isub, 1) := by decide +kernel
theorem dX6_isBoard_10 : decode cX6_isBoard 10 = .ok (.invokestatic 34, 3) := by decide +kernel
theorem dX6_isBoard_13 : decode cX6_isBoard 13 = .ok (.ireturn, 1) := by decide +kernel
set_option maxRecDepth 20000 in
theorem ggX6_isMiddle_X6_in : GoodIn wsX6_isMiddle wsX6_in := goodIn_r _ [5] (by decide +kernel) (by decide +kernel)
set_option maxRecDepth 20000 in
theorem gX6_isMiddle_X6_in : GoodIn wsX6_isMiddle (va_wsS RX6 34 yX6_in wsX6_in) := goodIn_app (goodIn_of _ (by decide +kernel)) ggX6_isMiddle_X6_in
theorem dX6_isMiddle_0 : decode cX6_isMiddle 0 = .ok (.iload_n 2, 1) := by decide +kernel
theorem dX6_isMiddle_1 : decode cX6_isMiddle 1 = .ok (.iconst 0, 1) := by decide +kernel
theorem dX6_isMiddle_2 : decode cX6_isMiddle 2 = .ok (.aload_n 0, 1) := by decide +kernel
theorem dX6_isMiddle_3 : decode cX6_isMiddle 3 = .ok (.getfield 7, 3) := by decide +kernel
theorem dX6_isMiddle_6 : decode cX6_isMiddle 6 = .ok (.iload_n 1, 1) := by decide +kernel
theorem dX6_isMiddle_7 : decode cX6_isMiddle 7 = .ok (.iconst 2, 1) := by decide +kernel
theorem dX6_isMiddle_8 : decode cX6_isMiddle 8 = .ok (.iadd, 1) := by decide +kernel
theorem dX6_isMiddle_9 : decode cX6_isMiddle 9 = .ok (.iaload, 1) := by decide +kernel
theorem dX6_isMiddle_10 : decode cX6_isMiddle 10 = .ok (.iconst 1, 1) := by decide +kernel
theorem dX6_isMiddle_11 : decode cX6_isMiddle 11 = .ok (.isub, 1) := by decide +kernel
theorem dX6_isMiddle_12 : decode cX6_isMiddle 12 = .ok (.invokestatic 34, 3) := by decide +kernel
theorem dX6_isMiddle_15 : decode cX6_isMiddle 15 = .ok (.ireturn, 1) := by decide +kernel
set_option maxRecDepth 20000 in
theorem ggX6_builds_X6_lay : GoodIn wsX6_builds wsX6_lay := goodIn_r _ [6, 1, 7, 8, 9, 10, 11, 12, 13, 14, 15, 16, 17, 18] (by decide +kernel) (by decide +kernel)
set_option maxRecDepth 20000 in
theorem gX6_builds_X6_lay : GoodIn wsX6_builds (wsV RX6 38 RX6 yX6_lay wsX6_lay) := goodIn_app (goodIn_of _ (by decide +kernel)) ggX6_builds_X6_lay
theorem dX6_builds_0 : decode cX6_builds 0 = .ok (.aload_n 0, 1) := by decide +kernel
theorem dX6_builds_1 : decode cX6_builds 1 = .ok (.getfield 7, 3) := by decide +kernel
theorem dX6_builds_4 : decode cX6_builds 4 = .ok (.iload_n 1, 1) := by decide +kernel
theorem dX6_builds_5 : decode cX6_builds 5 = .ok (.iconst 0, 1) := by decide +kernel
theorem dX6_builds_6 : decode cX6_builds 6 = .ok (.iadd, 1) := by decide +kernel
theorem dX6_builds_7 : decode cX6_builds 7 = .ok (.iload_n 2, 1) := by decide +kernel
theorem dX6_builds_8 : decode cX6_builds 8 = .ok (.iastore, 1) := by decide +kernel
theorem dX6_builds_9 : decode cX6_builds 9 = .ok (.aload_n 0, 1) := by decide +kernel
theorem dX6_builds_10 : decode cX6_builds 10 = .ok (.getfield 7, 3) := by decide +kernel
theorem dX6_builds_13 : decode cX6_builds 13 = .ok (.iload_n 1, 1) := by decide +kernel
theorem dX6_builds_14 : decode cX6_builds 14 = .ok (.iconst 1, 1) := by decide +kernel
theorem dX6_builds_15 : decode cX6_builds 15 = .ok (.iadd, 1) := by decide +kernel
theorem dX6_builds_16 : decode cX6_builds 16 = .ok (.iload_n 3, 1) := by decide +kernel
theorem dX6_builds_17 : decode cX6_builds 17 = .ok (.iastore, 1) := by decide +kernel
theorem dX6_builds_18 : decode cX6_builds 18 = .ok (.aload_n 0, 1) := by decide +kernel
theorem dX6_builds_19 : decode cX6_builds 19 = .ok (.getfield 7, 3) := by decide +kernel
theorem dX6_builds_22 : decode cX6_builds 22 = .ok (.iload_n 1, 1) := by decide +kernel
theorem dX6_builds_23 : decode cX6_builds 23 = .ok (.iconst 2, 1) := by decide +kernel
theorem dX6_builds_24 : decode cX6_builds 24 = .ok (.iadd, 1) := by decide +kernel
theorem dX6_builds_25 : decode cX6_builds 25 = .ok (.iload 4, 2) := by decide +kernel
theorem dX6_builds_27 : decode cX6_builds 27 = .ok (.iastore, 1) := by decide +kernel
theorem dX6_builds_28 : decode cX6_builds 28 = .ok (.aload_n 0, 1) := by decide +kernel
theorem dX6_builds_29 : decode cX6_builds 29 = .ok (.getfield 7, 3) := by decide +kernel
theorem dX6_builds_32 : decode cX6_builds 32 = .ok (.iload_n 1, 1) := by decide +kernel
theorem dX6_builds_33 : decode cX6_builds 33 = .ok (.bipush 9, 2) := by decide +kernel
theorem dX6_builds_35 : decode cX6_builds 35 = .ok (.iadd, 1) := by decide +kernel
theorem dX6_builds_36 : decode cX6_builds 36 = .ok (.iconst 1, 1) := by decide +kernel
theorem dX6_builds_37 : decode cX6_builds 37 = .ok (.iload 4, 2) := by decide +kernel
theorem dX6_builds_39 : decode cX6_builds 39 = .ok (.ishl, 1) := by decide +kernel
theorem dX6_builds_40 : decode cX6_builds 40 = .ok (.iconst 1, 1) := by decide +kernel
theorem dX6_builds_41 : decode cX6_builds 41 = .ok (.isub, 1) := by decide +kernel
theorem dX6_builds_42 : decode cX6_builds 42 = .ok (.iastore, 1) := by decide +kernel
theorem dX6_builds_43 : decode cX6_builds 43 = .ok (.iconst 0, 1) := by decide +kernel
theorem dX6_builds_44 : decode cX6_builds 44 = .ok (.istore 5, 2) := by decide +kernel
theorem dX6_builds_46 : decode cX6_builds 46 = .ok (.iload 5, 2) := by decide +kernel
theorem dX6_builds_48 : decode cX6_builds 48 = .ok (.bipush 48, 2) := by decide +kernel
theorem dX6_builds_50 : decode cX6_builds 50 = .ok (.if_icmp .ge 36, 3) := by decide +kernel
theorem dX6_builds_53 : decode cX6_builds 53 = .ok (.aload_n 0, 1) := by decide +kernel
theorem dX6_builds_54 : decode cX6_builds 54 = .ok (.iload_n 1, 1) := by decide +kernel
theorem dX6_builds_55 : decode cX6_builds 55 = .ok (.iload 5, 2) := by decide +kernel
theorem dX6_builds_57 : decode cX6_builds 57 = .ok (.iconst 0, 1) := by decide +kernel
theorem dX6_builds_58 : decode cX6_builds 58 = .ok (.iconst (-1), 1) := by decide +kernel
theorem dX6_builds_59 : decode cX6_builds 59 = .ok (.invokevirtual 38, 3) := by decide +kernel
theorem dX6_builds_62 : decode cX6_builds 62 = .ok (.aload_n 0, 1) := by decide +kernel
theorem dX6_builds_63 : decode cX6_builds 63 = .ok (.iload_n 1, 1) := by decide +kernel
theorem dX6_builds_64 : decode cX6_builds 64 = .ok (.iload 5, 2) := by decide +kernel
theorem dX6_builds_66 : decode cX6_builds 66 = .ok (.iconst 1, 1) := by decide +kernel
theorem dX6_builds_67 : decode cX6_builds 67 = .ok (.iconst (-1), 1) := by decide +kernel
theorem dX6_builds_68 : decode cX6_builds 68 = .ok (.invokevirtual 38, 3) := by decide +kernel
theorem dX6_builds_71 : decode cX6_builds 71 = .ok (.aload_n 0, 1) := by decide +kernel
theorem dX6_builds_72 : decode cX6_builds 72 = .ok (.iload_n 1, 1) := by decide +kernel
theorem dX6_builds_73 : decode cX6_builds 73 = .ok (.iload 5, 2) := by decide +kernel
theorem dX6_builds_75 : decode cX6_builds 75 = .ok (.iconst 2, 1) := by decide +kernel
theorem dX6_builds_76 : decode cX6_builds 76 = .ok (.iconst (-1), 1) := by decide +kernel
theorem dX6_builds_77 : decode cX6_builds 77 = .ok (.invokevirtual 38, 3) := by decide +kernel
theorem dX6_builds_80 : decode cX6_builds 80 = .ok (.iinc 5 1, 3) := by decide +kernel
theorem dX6_builds_83 : decode cX6_builds 83 = .ok (.goto (-37), 3) := by decide +kernel
theorem dX6_builds_86 : decode cX6_builds 86 = .ok (.return_, 1) := by decide +kernel
set_option maxRecDepth 20000 in
theorem ggX6_calls_X6_lines : GoodIn wsX6_calls wsX6_lines := goodIn_r _ [5, 6, 11, 12, 13, 14, 15, 16, 17, 18, 19, 20, 21, 22] (by decide +kernel) (by decide +kernel)
set_option maxRecDepth 20000 in
theorem gX6_calls_X6_lines : GoodIn wsX6_calls (wsV RX6 30 RX6 yX6_lines wsX6_lines) := goodIn_app (goodIn_of _ (by decide +kernel)) ggX6_calls_X6_lines
set_option maxRecDepth 20000 in
theorem ggX6_calls_X6_of : GoodIn wsX6_calls wsX6_of := goodIn_r _ [10, 6, 11, 12, 13, 14, 15, 16, 17, 18, 19, 20, 21, 22] (by decide +kernel) (by decide +kernel)
set_option maxRecDepth 20000 in
theorem gX6_calls_X6_of : GoodIn wsX6_calls (wsV RX6 41 RX6 yX6_of wsX6_of) := goodIn_app (goodIn_of _ (by decide +kernel)) ggX6_calls_X6_of
theorem dX6_calls_0 : decode cX6_calls 0 = .ok (.iconst 0, 1) := by decide +kernel
theorem dX6_calls_1 : decode cX6_calls 1 = .ok (.istore_n 2, 1) := by decide +kernel
theorem dX6_calls_2 : decode cX6_calls 2 = .ok (.iconst 0, 1) := by decide +kernel
theorem dX6_calls_3 : decode cX6_calls 3 = .ok (.istore_n 3, 1) := by decide +kernel
theorem dX6_calls_4 : decode cX6_calls 4 = .ok (.iload_n 3, 1) := by decide +kernel
theorem dX6_calls_5 : decode cX6_calls 5 = .ok (.aload_n 0, 1) := by decide +kernel
theorem dX6_calls_6 : decode cX6_calls 6 = .ok (.iload_n 1, 1) := by decide +kernel
theorem dX6_calls_7 : decode cX6_calls 7 = .ok (.invokevirtual 30, 3) := by decide +kernel
theorem dX6_calls_10 : decode cX6_calls 10 = .ok (.if_icmp .ge 28, 3) := by decide +kernel
theorem dX6_calls_13 : decode cX6_calls 13 = .ok (.iload_n 2, 1) := by decide +kernel
theorem dX6_calls_14 : decode cX6_calls 14 = .ok (.aload_n 0, 1) := by decide +kernel
theorem dX6_calls_15 : decode cX6_calls 15 = .ok (.iload_n 1, 1) := by decide +kernel
theorem dX6_calls_16 : decode cX6_calls 16 = .ok (.iload_n 3, 1) := by decide +kernel
theorem dX6_calls_17 : decode cX6_calls 17 = .ok (.iconst 0, 1) := by decide +kernel
theorem dX6_calls_18 : decode cX6_calls 18 = .ok (.invokevirtual 41, 3) := by decide +kernel
theorem dX6_calls_21 : decode cX6_calls 21 = .ok (.iconst (-1), 1) := by decide +kernel
theorem dX6_calls_22 : decode cX6_calls 22 = .ok (.if_icmp .ne 7, 3) := by decide +kernel
theorem dX6_calls_25 : decode cX6_calls 25 = .ok (.iconst 0, 1) := by decide +kernel
theorem dX6_calls_26 : decode cX6_calls 26 = .ok (.goto 4, 3) := by decide +kernel
theorem dX6_calls_29 : decode cX6_calls 29 = .ok (.iconst 1, 1) := by decide +kernel
theorem dX6_calls_30 : decode cX6_calls 30 = .ok (.iadd, 1) := by decide +kernel
theorem dX6_calls_31 : decode cX6_calls 31 = .ok (.istore_n 2, 1) := by decide +kernel
theorem dX6_calls_32 : decode cX6_calls 32 = .ok (.iinc 3 1, 3) := by decide +kernel
theorem dX6_calls_35 : decode cX6_calls 35 = .ok (.goto (-31), 3) := by decide +kernel
theorem dX6_calls_38 : decode cX6_calls 38 = .ok (.iload_n 2, 1) := by decide +kernel
theorem dX6_calls_39 : decode cX6_calls 39 = .ok (.ireturn, 1) := by decide +kernel
set_option maxRecDepth 20000 in
theorem ggX6_inletTo_X6_lines : GoodIn wsX6_inletTo wsX6_lines := goodIn_r _ [5, 6, 11, 12, 13, 14, 15, 16, 17, 18, 19, 20, 21, 22] (by decide +kernel) (by decide +kernel)
set_option maxRecDepth 20000 in
theorem gX6_inletTo_X6_lines : GoodIn wsX6_inletTo (wsV RX6 30 RX6 yX6_lines wsX6_lines) := goodIn_app (goodIn_of _ (by decide +kernel)) ggX6_inletTo_X6_lines
set_option maxRecDepth 20000 in
theorem ggX6_inletTo_X6_of : GoodIn wsX6_inletTo wsX6_of := goodIn_r _ [10, 6, 11, 12, 13, 14, 15, 16, 17, 18, 19, 20, 21, 22] (by decide +kernel) (by decide +kernel)
set_option maxRecDepth 20000 in
theorem gX6_inletTo_X6_of : GoodIn wsX6_inletTo (wsV RX6 41 RX6 yX6_of wsX6_of) := goodIn_app (goodIn_of _ (by decide +kernel)) ggX6_inletTo_X6_of
theorem dX6_inletTo_0 : decode cX6_inletTo 0 = .ok (.iconst 0, 1) := by decide +kernel
theorem dX6_inletTo_1 : decode cX6_inletTo 1 = .ok (.istore_n 3, 1) := by decide +kernel
theorem dX6_inletTo_2 : decode cX6_inletTo 2 = .ok (.iload_n 3, 1) := by decide +kernel
theorem dX6_inletTo_3 : decode cX6_inletTo 3 = .ok (.aload_n 0, 1) := by decide +kernel
theorem dX6_inletTo_4 : decode cX6_inletTo 4 = .ok (.iload_n 1, 1) := by decide +kernel
theorem dX6_inletTo_5 : decode cX6_inletTo 5 = .ok (.invokevirtual 30, 3) := by decide +kernel
theorem dX6_inletTo_8 : decode cX6_inletTo 8 = .ok (.if_icmp .ge 33, 3) := by decide +kernel
theorem dX6_inletTo_11 : decode cX6_inletTo 11 = .ok (.aload_n 0, 1) := by decide +kernel
theorem dX6_inletTo_12 : decode cX6_inletTo 12 = .ok (.iload_n 1, 1) := by decide +kernel
theorem dX6_inletTo_13 : decode cX6_inletTo 13 = .ok (.iload_n 3, 1) := by decide +kernel
theorem dX6_inletTo_14 : decode cX6_inletTo 14 = .ok (.iconst 0, 1) := by decide +kernel
theorem dX6_inletTo_15 : decode cX6_inletTo 15 = .ok (.invokevirtual 41, 3) := by decide +kernel
theorem dX6_inletTo_18 : decode cX6_inletTo 18 = .ok (.iconst (-1), 1) := by decide +kernel
theorem dX6_inletTo_19 : decode cX6_inletTo 19 = .ok (.if_icmp .eq 16, 3) := by decide +kernel
theorem dX6_inletTo_22 : decode cX6_inletTo 22 = .ok (.aload_n 0, 1) := by decide +kernel
theorem dX6_inletTo_23 : decode cX6_inletTo 23 = .ok (.iload_n 1, 1) := by decide +kernel
theorem dX6_inletTo_24 : decode cX6_inletTo 24 = .ok (.iload_n 3, 1) := by decide +kernel
theorem dX6_inletTo_25 : decode cX6_inletTo 25 = .ok (.iconst 1, 1) := by decide +kernel
theorem dX6_inletTo_26 : decode cX6_inletTo 26 = .ok (.invokevirtual 41, 3) := by decide +kernel
theorem dX6_inletTo_29 : decode cX6_inletTo 29 = .ok (.iload_n 2, 1) := by decide +kernel
theorem dX6_inletTo_30 : decode cX6_inletTo 30 = .ok (.if_icmp .ne 5, 3) := by decide +kernel
theorem dX6_inletTo_33 : decode cX6_inletTo 33 = .ok (.iload_n 3, 1) := by decide +kernel
theorem dX6_inletTo_34 : decode cX6_inletTo 34 = .ok (.ireturn, 1) := by decide +kernel
theorem dX6_inletTo_35 : decode cX6_inletTo 35 = .ok (.iinc 3 1, 3) := by decide +kernel
theorem dX6_inletTo_38 : decode cX6_inletTo 38 = .ok (.goto (-36), 3) := by decide +kernel
theorem dX6_inletTo_41 : decode cX6_inletTo 41 = .ok (.iconst (-1), 1) := by decide +kernel
theorem dX6_inletTo_42 : decode cX6_inletTo 42 = .ok (.ireturn, 1) := by decide +kernel
set_option maxRecDepth 20000 in
theorem ggX6_onFirst_X6_lines : GoodIn wsX6_onFirst wsX6_lines := goodIn_r _ [6, 1, 11, 12, 13, 14, 15, 16, 17, 18, 19, 20, 21, 22] (by decide +kernel) (by decide +kernel)
set_option maxRecDepth 20000 in
theorem gX6_onFirst_X6_lines : GoodIn wsX6_onFirst (wsV RX6 30 RX6 yX6_lines wsX6_lines) := goodIn_app (goodIn_of _ (by decide +kernel)) ggX6_onFirst_X6_lines
set_option maxRecDepth 20000 in
theorem ggX6_onFirst_X6_of : GoodIn wsX6_onFirst wsX6_of := goodIn_r _ [10, 1, 11, 12, 13, 14, 15, 16, 17, 18, 19, 20, 21, 22] (by decide +kernel) (by decide +kernel)
set_option maxRecDepth 20000 in
theorem gX6_onFirst_X6_of : GoodIn wsX6_onFirst (wsV RX6 41 RX6 yX6_of wsX6_of) := goodIn_app (goodIn_of _ (by decide +kernel)) ggX6_onFirst_X6_of
theorem dX6_onFirst_0 : decode cX6_onFirst 0 = .ok (.iconst 0, 1) := by decide +kernel
theorem dX6_onFirst_1 : decode cX6_onFirst 1 = .ok (.istore 4, 2) := by decide +kernel
theorem dX6_onFirst_3 : decode cX6_onFirst 3 = .ok (.iload 4, 2) := by decide +kernel
theorem dX6_onFirst_5 : decode cX6_onFirst 5 = .ok (.aload_n 0, 1) := by decide +kernel
theorem dX6_onFirst_6 : decode cX6_onFirst 6 = .ok (.iload_n 1, 1) := by decide +kernel
theorem dX6_onFirst_7 : decode cX6_onFirst 7 = .ok (.invokevirtual 30, 3) := by decide +kernel
theorem dX6_onFirst_10 : decode cX6_onFirst 10 = .ok (.if_icmp .ge 51, 3) := by decide +kernel
theorem dX6_onFirst_13 : decode cX6_onFirst 13 = .ok (.aload_n 0, 1) := by decide +kernel
theorem dX6_onFirst_14 : decode cX6_onFirst 14 = .ok (.iload_n 1, 1) := by decide +kernel
theorem dX6_onFirst_15 : decode cX6_onFirst 15 = .ok (.iload 4, 2) := by decide +kernel
theorem dX6_onFirst_17 : decode cX6_onFirst 17 = .ok (.iconst 0, 1) := by decide +kernel
theorem dX6_onFirst_18 : decode cX6_onFirst 18 = .ok (.invokevirtual 41, 3) := by decide +kernel
theorem dX6_onFirst_21 : decode cX6_onFirst 21 = .ok (.iconst (-1), 1) := by decide +kernel
theorem dX6_onFirst_22 : decode cX6_onFirst 22 = .ok (.if_icmp .eq 33, 3) := by decide +kernel
theorem dX6_onFirst_25 : decode cX6_onFirst 25 = .ok (.aload_n 0, 1) := by decide +kernel
theorem dX6_onFirst_26 : decode cX6_onFirst 26 = .ok (.iload_n 1, 1) := by decide +kernel
theorem dX6_onFirst_27 : decode cX6_onFirst 27 = .ok (.iload 4, 2) := by decide +kernel
theorem dX6_onFirst_29 : decode cX6_onFirst 29 = .ok (.iconst 2, 1) := by decide +kernel
theorem dX6_onFirst_30 : decode cX6_onFirst 30 = .ok (.invokevirtual 41, 3) := by decide +kernel
theorem dX6_onFirst_33 : decode cX6_onFirst 33 = .ok (.iload_n 3, 1) := by decide +kernel
theorem dX6_onFirst_34 : decode cX6_onFirst 34 = .ok (.if_icmp .ne 21, 3) := by decide +kernel
theorem dX6_onFirst_37 : decode cX6_onFirst 37 = .ok (.iload 4, 2) := by decide +kernel
theorem dX6_onFirst_39 : decode cX6_onFirst 39 = .ok (.aload_n 0, 1) := by decide +kernel
theorem dX6_onFirst_40 : decode cX6_onFirst 40 = .ok (.getfield 7, 3) := by decide +kernel
theorem dX6_onFirst_43 : decode cX6_onFirst 43 = .ok (.iload_n 1, 1) := by decide +kernel
theorem dX6_onFirst_44 : decode cX6_onFirst 44 = .ok (.iconst 1, 1) := by decide +kernel
theorem dX6_onFirst_45 : decode cX6_onFirst 45 = .ok (.iadd, 1) := by decide +kernel
theorem dX6_onFirst_46 : decode cX6_onFirst 46 = .ok (.iaload, 1) := by decide +kernel
theorem dX6_onFirst_47 : decode cX6_onFirst 47 = .ok (.idiv, 1) := by decide +kernel
theorem dX6_onFirst_48 : decode cX6_onFirst 48 = .ok (.iload_n 2, 1) := by decide +kernel
theorem dX6_onFirst_49 : decode cX6_onFirst 49 = .ok (.if_icmp .ne 6, 3) := by decide +kernel
theorem dX6_onFirst_52 : decode cX6_onFirst 52 = .ok (.iload 4, 2) := by decide +kernel
theorem dX6_onFirst_54 : decode cX6_onFirst 54 = .ok (.ireturn, 1) := by decide +kernel
theorem dX6_onFirst_55 : decode cX6_onFirst 55 = .ok (.iinc 4 1, 3) := by decide +kernel
theorem dX6_onFirst_58 : decode cX6_onFirst 58 = .ok (.goto (-55), 3) := by decide +kernel
theorem dX6_onFirst_61 : decode cX6_onFirst 61 = .ok (.iconst (-1), 1) := by decide +kernel
theorem dX6_onFirst_62 : decode cX6_onFirst 62 = .ok (.ireturn, 1) := by decide +kernel
set_option maxRecDepth 20000 in
theorem ggX6_onLast_X6_lines : GoodIn wsX6_onLast wsX6_lines := goodIn_r _ [6, 1, 11, 12, 13, 14, 15, 16, 17, 18, 19, 20, 21, 22] (by decide +kernel) (by decide +kernel)
set_option maxRecDepth 20000 in
theorem gX6_onLast_X6_lines : GoodIn wsX6_onLast (wsV RX6 30 RX6 yX6_lines wsX6_lines) := goodIn_app (goodIn_of _ (by decide +kernel)) ggX6_onLast_X6_lines
set_option maxRecDepth 20000 in
theorem ggX6_onLast_X6_of : GoodIn wsX6_onLast wsX6_of := goodIn_r _ [10, 1, 11, 12, 13, 14, 15, 16, 17, 18, 19, 20, 21, 22] (by decide +kernel) (by decide +kernel)
set_option maxRecDepth 20000 in
theorem gX6_onLast_X6_of : GoodIn wsX6_onLast (wsV RX6 41 RX6 yX6_of wsX6_of) := goodIn_app (goodIn_of _ (by decide +kernel)) ggX6_onLast_X6_of
theorem dX6_onLast_0 : decode cX6_onLast 0 = .ok (.iconst 0, 1) := by decide +kernel
theorem dX6_onLast_1 : decode cX6_onLast 1 = .ok (.istore 4, 2) := by decide +kernel
theorem dX6_onLast_3 : decode cX6_onLast 3 = .ok (.iload 4, 2) := by decide +kernel
theorem dX6_onLast_5 : decode cX6_onLast 5 = .ok (.aload_n 0, 1) := by decide +kernel
theorem dX6_onLast_6 : decode cX6_onLast 6 = .ok (.iload_n 1, 1) := by decide +kernel
theorem dX6_onLast_7 : decode cX6_onLast 7 = .ok (.invokevirtual 30, 3) := by decide +kernel
theorem dX6_onLast_10 : decode cX6_onLast 10 = .ok (.if_icmp .ge 57, 3) := by decide +kernel
theorem dX6_onLast_13 : decode cX6_onLast 13 = .ok (.aload_n 0, 1) := by decide +kernel
theorem dX6_onLast_14 : decode cX6_onLast 14 = .ok (.iload_n 1, 1) := by decide +kernel
theorem dX6_onLast_15 : decode cX6_onLast 15 = .ok (.iload 4, 2) := by decide +kernel
theorem dX6_onLast_17 : decode cX6_onLast 17 = .ok (.iconst 0, 1) := by decide +kernel
theorem dX6_onLast_18 : decode cX6_onLast 18 = .ok (.invokevirtual 41, 3) := by decide +kernel
theorem dX6_onLast_21 : decode cX6_onLast 21 = .ok (.iconst (-1), 1) := by decide +kernel
theorem dX6_onLast_22 : decode cX6_onLast 22 = .ok (.if_icmp .eq 39, 3) := by decide +kernel
theorem dX6_onLast_25 : decode cX6_onLast 25 = .ok (.aload_n 0, 1) := by decide +kernel
theorem dX6_onLast_26 : decode cX6_onLast 26 = .ok (.iload_n 1, 1) := by decide +kernel
theorem dX6_onLast_27 : decode cX6_onLast 27 = .ok (.iload 4, 2) := by decide +kernel
theorem dX6_onLast_29 : decode cX6_onLast 29 = .ok (.iconst 2, 1) := by decide +kernel
theorem dX6_onLast_30 : decode cX6_onLast 30 = .ok (.invokevirtual 41, 3) := by decide +kernel
theorem dX6_onLast_33 : decode cX6_onLast 33 = .ok (.iload_n 2, 1) := by decide +kernel
theorem dX6_onLast_34 : decode cX6_onLast 34 = .ok (.if_icmp .ne 27, 3) := by decide +kernel
theorem dX6_onLast_37 : decode cX6_onLast 37 = .ok (.aload_n 0, 1) := by decide +kernel
theorem dX6_onLast_38 : decode cX6_onLast 38 = .ok (.iload_n 1, 1) := by decide +kernel
theorem dX6_onLast_39 : decode cX6_onLast 39 = .ok (.iload 4, 2) := by decide +kernel
theorem dX6_onLast_41 : decode cX6_onLast 41 = .ok (.iconst 1, 1) := by decide +kernel
theorem dX6_onLast_42 : decode cX6_onLast 42 = .ok (.invokevirtual 41, 3) := by decide +kernel
theorem dX6_onLast_45 : decode cX6_onLast 45 = .ok (.aload_n 0, 1) := by decide +kernel
theorem dX6_onLast_46 : decode cX6_onLast 46 = .ok (.getfield 7, 3) := by decide +kernel
theorem dX6_onLast_49 : decode cX6_onLast 49 = .ok (.iload_n 1, 1) := by decide +kernel
theorem dX6_onLast_50 : decode cX6_onLast 50 = .ok (.iconst 1, 1) := by decide +kernel
theorem dX6_onLast_51 : decode cX6_onLast 51 = .ok (.iadd, 1) := by decide +kernel
theorem dX6_onLast_52 : decode cX6_onLast 52 = .ok (.iaload, 1) := by decide +kernel
theorem dX6_onLast_53 : decode cX6_onLast 53 = .ok (.idiv, 1) := by decide +kernel
theorem dX6_onLast_54 : decode cX6_onLast 54 = .ok (.iload_n 3, 1) := by decide +kernel
theorem dX6_onLast_55 : decode cX6_onLast 55 = .ok (.if_icmp .ne 6, 3) := by decide +kernel
theorem dX6_onLast_58 : decode cX6_onLast 58 = .ok (.iload 4, 2) := by decide +kernel
theorem dX6_onLast_60 : decode cX6_onLast 60 = .ok (.ireturn, 1) := by decide +kernel
theorem dX6_onLast_61 : decode cX6_onLast 61 = .ok (.iinc 4 1, 3) := by decide +kernel
theorem dX6_onLast_64 : decode cX6_onLast 64 = .ok (.goto (-61), 3) := by decide +kernel
theorem dX6_onLast_67 : decode cX6_onLast 67 = .ok (.iconst (-1), 1) := by decide +kernel
theorem dX6_onLast_68 : decode cX6_onLast 68 = .ok (.ireturn, 1) := by decide +kernel
set_option maxRecDepth 20000 in
theorem ggX6_loadOf_X6_lines : GoodIn wsX6_loadOf wsX6_lines := goodIn_r _ [5, 6, 11, 12, 13, 14, 15, 16, 17, 18, 19, 20, 21, 22] (by decide +kernel) (by decide +kernel)
set_option maxRecDepth 20000 in
theorem gX6_loadOf_X6_lines : GoodIn wsX6_loadOf (wsV RX6 30 RX6 yX6_lines wsX6_lines) := goodIn_app (goodIn_of _ (by decide +kernel)) ggX6_loadOf_X6_lines
set_option maxRecDepth 20000 in
theorem ggX6_loadOf_X6_of : GoodIn wsX6_loadOf wsX6_of := goodIn_r _ [10, 6, 11, 12, 13, 14, 15, 16, 17, 18, 19, 20, 21, 22] (by decide +kernel) (by decide +kernel)
set_option maxRecDepth 20000 in
theorem gX6_loadOf_X6_of : GoodIn wsX6_loadOf (wsV RX6 41 RX6 yX6_of wsX6_of) := goodIn_app (goodIn_of _ (by decide +kernel)) ggX6_loadOf_X6_of
theorem dX6_loadOf_0 : decode cX6_loadOf 0 = .ok (.iconst 0, 1) := by decide +kernel
theorem dX6_loadOf_1 : decode cX6_loadOf 1 = .ok (.istore_n 3, 1) := by decide +kernel
theorem dX6_loadOf_2 : decode cX6_loadOf 2 = .ok (.iconst 0, 1) := by decide +kernel
theorem dX6_loadOf_3 : decode cX6_loadOf 3 = .ok (.istore 4, 2) := by decide +kernel
theorem dX6_loadOf_5 : decode cX6_loadOf 5 = .ok (.iload 4, 2) := by decide +kernel
theorem dX6_loadOf_7 : decode cX6_loadOf 7 = .ok (.aload_n 0, 1) := by decide +kernel
theorem dX6_loadOf_8 : decode cX6_loadOf 8 = .ok (.iload_n 1, 1) := by decide +kernel
theorem dX6_loadOf_9 : decode cX6_loadOf 9 = .ok (.invokevirtual 30, 3) := by decide +kernel
theorem dX6_loadOf_12 : decode cX6_loadOf 12 = .ok (.if_icmp .ge 41, 3) := by decide +kernel
theorem dX6_loadOf_15 : decode cX6_loadOf 15 = .ok (.iload_n 3, 1) := by decide +kernel
theorem dX6_loadOf_16 : decode cX6_loadOf 16 = .ok (.aload_n 0, 1) := by decide +kernel
theorem dX6_loadOf_17 : decode cX6_loadOf 17 = .ok (.iload_n 1, 1) := by decide +kernel
theorem dX6_loadOf_18 : decode cX6_loadOf 18 = .ok (.iload 4, 2) := by decide +kernel
theorem dX6_loadOf_20 : decode cX6_loadOf 20 = .ok (.iconst 0, 1) := by decide +kernel
theorem dX6_loadOf_21 : decode cX6_loadOf 21 = .ok (.invokevirtual 41, 3) := by decide +kernel
theorem dX6_loadOf_24 : decode cX6_loadOf 24 = .ok (.iconst (-1), 1) := by decide +kernel
theorem dX6_loadOf_25 : decode cX6_loadOf 25 = .ok (.if_icmp .eq 19, 3) := by decide +kernel
theorem dX6_loadOf_28 : decode cX6_loadOf 28 = .ok (.aload_n 0, 1) := by decide +kernel
theorem dX6_loadOf_29 : decode cX6_loadOf 29 = .ok (.iload_n 1, 1) := by decide +kernel
theorem dX6_loadOf_30 : decode cX6_loadOf 30 = .ok (.iload 4, 2) := by decide +kernel
theorem dX6_loadOf_32 : decode cX6_loadOf 32 = .ok (.iconst 2, 1) := by decide +kernel
theorem dX6_loadOf_33 : decode cX6_loadOf 33 = .ok (.invokevirtual 41, 3) := by decide +kernel
theorem dX6_loadOf_36 : decode cX6_loadOf 36 = .ok (.iload_n 2, 1) := by decide +kernel
theorem dX6_loadOf_37 : decode cX6_loadOf 37 = .ok (.if_icmp .ne 7, 3) := by decide +kernel
theorem dX6_loadOf_40 : decode cX6_loadOf 40 = .ok (.iconst 1, 1) := by decide +kernel
theorem dX6_loadOf_41 : decode cX6_loadOf 41 = .ok (.goto 4, 3) := by decide +kernel
theorem dX6_loadOf_44 : decode cX6_loadOf 44 = .ok (.iconst 0, 1) := by decide +kernel
theorem dX6_loadOf_45 : decode cX6_loadOf 45 = .ok (.iadd, 1) := by decide +kernel
theorem dX6_loadOf_46 : decode cX6_loadOf 46 = .ok (.istore_n 3, 1) := by decide +kernel
theorem dX6_loadOf_47 : decode cX6_loadOf 47 = .ok (.iinc 4 1, 3) := by decide +kernel
theorem dX6_loadOf_50 : decode cX6_loadOf 50 = .ok (.goto (-45), 3) := by decide +kernel
theorem dX6_loadOf_53 : decode cX6_loadOf 53 = .ok (.iload_n 3, 1) := by decide +kernel
theorem dX6_loadOf_54 : decode cX6_loadOf 54 = .ok (.ireturn, 1) := by decide +kernel
set_option maxRecDepth 20000 in
theorem ggX6_freeAhead_X6_has : GoodIn wsX6_freeAhead wsX6_has := goodIn_r _ [5] (by decide +kernel) (by decide +kernel)
set_option maxRecDepth 20000 in
theorem gX6_freeAhead_X6_has : GoodIn wsX6_freeAhead (va_wsS RX6 26 yX6_has wsX6_has) := goodIn_app (goodIn_of _ (by decide +kernel)) ggX6_freeAhead_X6_has
set_option maxRecDepth 20000 in
theorem ggX6_freeAhead_X6_onFirst : GoodIn wsX6_freeAhead wsX6_onFirst := goodIn_r _ [9, 1, 10, 11, 12, 4, 13, 14, 15, 16, 17, 18, 19, 20, 21, 22, 23, 24, 25, 26, 27, 28, 29] (by decide +kernel) (by decide +kernel)
set_option maxRecDepth 20000 in
theorem gX6_freeAhead_X6_onFirst : GoodIn wsX6_freeAhead (wsV RX6 45 RX6 yX6_onFirst wsX6_onFirst) := goodIn_app (goodIn_of _ (by decide +kernel)) ggX6_freeAhead_X6_onFirst
theorem dX6_freeAhead_0 : decode cX6_freeAhead 0 = .ok (.iconst 0, 1) := by decide +kernel
theorem dX6_freeAhead_1 : decode cX6_freeAhead 1 = .ok (.istore_n 3, 1) := by decide +kernel
theorem dX6_freeAhead_2 : decode cX6_freeAhead 2 = .ok (.iconst 0, 1) := by decide +kernel
theorem dX6_freeAhead_3 : decode cX6_freeAhead 3 = .ok (.istore 4, 2) := by decide +kernel
theorem dX6_freeAhead_5 : decode cX6_freeAhead 5 = .ok (.iload 4, 2) := by decide +kernel
theorem dX6_freeAhead_7 : decode cX6_freeAhead 7 = .ok (.aload_n 0, 1) := by decide +kernel
theorem dX6_freeAhead_8 : decode cX6_freeAhead 8 = .ok (.getfield 7, 3) := by decide +kernel
theorem dX6_freeAhead_11 : decode cX6_freeAhead 11 = .ok (.iload_n 1, 1) := by decide +kernel
theorem dX6_freeAhead_12 : decode cX6_freeAhead 12 = .ok (.iconst 2, 1) := by decide +kernel
theorem dX6_freeAhead_13 : decode cX6_freeAhead 13 = .ok (.iadd, 1) := by decide +kernel
theorem dX6_freeAhead_14 : decode cX6_freeAhead 14 = .ok (.iaload, 1) := by decide +kernel
theorem dX6_freeAhead_15 : decode cX6_freeAhead 15 = .ok (.if_icmp .ge 49, 3) := by decide +kernel
theorem dX6_freeAhead_18 : decode cX6_freeAhead 18 = .ok (.iload_n 3, 1) := by decide +kernel
theorem dX6_freeAhead_19 : decode cX6_freeAhead 19 = .ok (.aload_n 0, 1) := by decide +kernel
theorem dX6_freeAhead_20 : decode cX6_freeAhead 20 = .ok (.getfield 7, 3) := by decide +kernel
theorem dX6_freeAhead_23 : decode cX6_freeAhead 23 = .ok (.iload_n 1, 1) := by decide +kernel
theorem dX6_freeAhead_24 : decode cX6_freeAhead 24 = .ok (.bipush 9, 2) := by decide +kernel
theorem dX6_freeAhead_26 : decode cX6_freeAhead 26 = .ok (.iadd, 1) := by decide +kernel
theorem dX6_freeAhead_27 : decode cX6_freeAhead 27 = .ok (.iaload, 1) := by decide +kernel
theorem dX6_freeAhead_28 : decode cX6_freeAhead 28 = .ok (.iload 4, 2) := by decide +kernel
theorem dX6_freeAhead_30 : decode cX6_freeAhead 30 = .ok (.invokestatic 26, 3) := by decide +kernel
theorem dX6_freeAhead_33 : decode cX6_freeAhead 33 = .ok (.ifCond .eq 22, 3) := by decide +kernel
theorem dX6_freeAhead_36 : decode cX6_freeAhead 36 = .ok (.aload_n 0, 1) := by decide +kernel
theorem dX6_freeAhead_37 : decode cX6_freeAhead 37 = .ok (.iload_n 1, 1) := by decide +kernel
theorem dX6_freeAhead_38 : decode cX6_freeAhead 38 = .ok (.iload_n 2, 1) := by decide +kernel
theorem dX6_freeAhead_39 : decode cX6_freeAhead 39 = .ok (.iload 4, 2) := by decide +kernel
theorem dX6_freeAhead_41 : decode cX6_freeAhead 41 = .ok (.invokevirtual 45, 3) := by decide +kernel
theorem dX6_freeAhead_44 : decode cX6_freeAhead 44 = .ok (.iconst (-1), 1) := by decide +kernel
theorem dX6_freeAhead_45 : decode cX6_freeAhead 45 = .ok (.if_icmp .ne 10, 3) := by decide +kernel
theorem dX6_freeAhead_48 : decode cX6_freeAhead 48 = .ok (.iconst 1, 1) := by decide +kernel
theorem dX6_freeAhead_49 : decode cX6_freeAhead 49 = .ok (.iload 4, 2) := by decide +kernel
theorem dX6_freeAhead_51 : decode cX6_freeAhead 51 = .ok (.ishl, 1) := by decide +kernel
theorem dX6_freeAhead_52 : decode cX6_freeAhead 52 = .ok (.goto 4, 3) := by decide +kernel
theorem dX6_freeAhead_55 : decode cX6_freeAhead 55 = .ok (.iconst 0, 1) := by decide +kernel
theorem dX6_freeAhead_56 : decode cX6_freeAhead 56 = .ok (.ior, 1) := by decide +kernel
theorem dX6_freeAhead_57 : decode cX6_freeAhead 57 = .ok (.istore_n 3, 1) := by decide +kernel
theorem dX6_freeAhead_58 : decode cX6_freeAhead 58 = .ok (.iinc 4 1, 3) := by decide +kernel
theorem dX6_freeAhead_61 : decode cX6_freeAhead 61 = .ok (.goto (-56), 3) := by decide +kernel
theorem dX6_freeAhead_64 : decode cX6_freeAhead 64 = .ok (.iload_n 3, 1) := by decide +kernel
theorem dX6_freeAhead_65 : decode cX6_freeAhead 65 = .ok (.ireturn, 1) := by decide +kernel
set_option maxRecDepth 20000 in
theorem ggX6_freeBehind_X6_has : GoodIn wsX6_freeBehind wsX6_has := goodIn_r _ [5] (by decide +kernel) (by decide +kernel)
set_option maxRecDepth 20000 in
theorem gX6_freeBehind_X6_has : GoodIn wsX6_freeBehind (va_wsS RX6 26 yX6_has wsX6_has) := goodIn_app (goodIn_of _ (by decide +kernel)) ggX6_freeBehind_X6_has
set_option maxRecDepth 20000 in
theorem ggX6_freeBehind_X6_onLast : GoodIn wsX6_freeBehind wsX6_onLast := goodIn_r _ [9, 1, 10, 11, 12, 4, 13, 14, 15, 16, 17, 18, 19, 20, 21, 22, 23, 24, 25, 26, 27, 28, 29] (by decide +kernel) (by decide +kernel)
set_option maxRecDepth 20000 in
theorem gX6_freeBehind_X6_onLast : GoodIn wsX6_freeBehind (wsV RX6 48 RX6 yX6_onLast wsX6_onLast) := goodIn_app (goodIn_of _ (by decide +kernel)) ggX6_freeBehind_X6_onLast
theorem dX6_freeBehind_0 : decode cX6_freeBehind 0 = .ok (.iconst 0, 1) := by decide +kernel
theorem dX6_freeBehind_1 : decode cX6_freeBehind 1 = .ok (.istore_n 3, 1) := by decide +kernel
theorem dX6_freeBehind_2 : decode cX6_freeBehind 2 = .ok (.iconst 0, 1) := by decide +kernel
theorem dX6_freeBehind_3 : decode cX6_freeBehind 3 = .ok (.istore 4, 2) := by decide +kernel
theorem dX6_freeBehind_5 : decode cX6_freeBehind 5 = .ok (.iload 4, 2) := by decide +kernel
theorem dX6_freeBehind_7 : decode cX6_freeBehind 7 = .ok (.aload_n 0, 1) := by decide +kernel
theorem dX6_freeBehind_8 : decode cX6_freeBehind 8 = .ok (.getfield 7, 3) := by decide +kernel
theorem dX6_freeBehind_11 : decode cX6_freeBehind 11 = .ok (.iload_n 1, 1) := by decide +kernel
theorem dX6_freeBehind_12 : decode cX6_freeBehind 12 = .ok (.iconst 2, 1) := by decide +kernel
theorem dX6_freeBehind_13 : decode cX6_freeBehind 13 = .ok (.iadd, 1) := by decide +kernel
theorem dX6_freeBehind_14 : decode cX6_freeBehind 14 = .ok (.iaload, 1) := by decide +kernel
theorem dX6_freeBehind_15 : decode cX6_freeBehind 15 = .ok (.if_icmp .ge 49, 3) := by decide +kernel
theorem dX6_freeBehind_18 : decode cX6_freeBehind 18 = .ok (.iload_n 3, 1) := by decide +kernel
theorem dX6_freeBehind_19 : decode cX6_freeBehind 19 = .ok (.aload_n 0, 1) := by decide +kernel
theorem dX6_freeBehind_20 : decode cX6_freeBehind 20 = .ok (.getfield 7, 3) := by decide +kernel
theorem dX6_freeBehind_23 : decode cX6_freeBehind 23 = .ok (.iload_n 1, 1) := by decide +kernel
theorem dX6_freeBehind_24 : decode cX6_freeBehind 24 = .ok (.bipush 9, 2) := by decide +kernel
theorem dX6_freeBehind_26 : decode cX6_freeBehind 26 = .ok (.iadd, 1) := by decide +kernel
theorem dX6_freeBehind_27 : decode cX6_freeBehind 27 = .ok (.iaload, 1) := by decide +kernel
theorem dX6_freeBehind_28 : decode cX6_freeBehind 28 = .ok (.iload 4, 2) := by decide +kernel
theorem dX6_freeBehind_30 : decode cX6_freeBehind 30 = .ok (.invokestatic 26, 3) := by decide +kernel
theorem dX6_freeBehind_33 : decode cX6_freeBehind 33 = .ok (.ifCond .eq 22, 3) := by decide +kernel
theorem dX6_freeBehind_36 : decode cX6_freeBehind 36 = .ok (.aload_n 0, 1) := by decide +kernel
theorem dX6_freeBehind_37 : decode cX6_freeBehind 37 = .ok (.iload_n 1, 1) := by decide +kernel
theorem dX6_freeBehind_38 : decode cX6_freeBehind 38 = .ok (.iload 4, 2) := by decide +kernel
theorem dX6_freeBehind_40 : decode cX6_freeBehind 40 = .ok (.iload_n 2, 1) := by decide +kernel
theorem dX6_freeBehind_41 : decode cX6_freeBehind 41 = .ok (.invokevirtual 48, 3) := by decide +kernel
theorem dX6_freeBehind_44 : decode cX6_freeBehind 44 = .ok (.iconst (-1), 1) := by decide +kernel
theorem dX6_freeBehind_45 : decode cX6_freeBehind 45 = .ok (.if_icmp .ne 10, 3) := by decide +kernel
theorem dX6_freeBehind_48 : decode cX6_freeBehind 48 = .ok (.iconst 1, 1) := by decide +kernel
theorem dX6_freeBehind_49 : decode cX6_freeBehind 49 = .ok (.iload 4, 2) := by decide +kernel
theorem dX6_freeBehind_51 : decode cX6_freeBehind 51 = .ok (.ishl, 1) := by decide +kernel
theorem dX6_freeBehind_52 : decode cX6_freeBehind 52 = .ok (.goto 4, 3) := by decide +kernel
theorem dX6_freeBehind_55 : decode cX6_freeBehind 55 = .ok (.iconst 0, 1) := by decide +kernel
theorem dX6_freeBehind_56 : decode cX6_freeBehind 56 = .ok (.ior, 1) := by decide +kernel
theorem dX6_freeBehind_57 : decode cX6_freeBehind 57 = .ok (.istore_n 3, 1) := by decide +kernel
theorem dX6_freeBehind_58 : decode cX6_freeBehind 58 = .ok (.iinc 4 1, 3) := by decide +kernel
theorem dX6_freeBehind_61 : decode cX6_freeBehind 61 = .ok (.goto (-56), 3) := by decide +kernel
theorem dX6_freeBehind_64 : decode cX6_freeBehind 64 = .ok (.iload_n 3, 1) := by decide +kernel
theorem dX6_freeBehind_65 : decode cX6_freeBehind 65 = .ok (.ireturn, 1) := by decide +kernel
set_option maxRecDepth 20000 in
theorem ggX6_chosen_X6_lowest : GoodIn wsX6_chosen wsX6_lowest := goodIn_r _ [5, 6, 7, 4, 8] (by decide +kernel) (by decide +kernel)
set_option maxRecDepth 20000 in
theorem gX6_chosen_X6_lowest : GoodIn wsX6_chosen (va_wsS RX6 51 yX6_lowest wsX6_lowest) := goodIn_app (goodIn_of _ (by decide +kernel)) ggX6_chosen_X6_lowest
set_option maxRecDepth 20000 in
theorem ggX6_chosen_X6_loadOf : GoodIn wsX6_chosen wsX6_loadOf := goodIn_r _ [12, 13, 14, 15, 4, 16, 1, 17, 18, 19, 20, 21, 22, 23, 24, 25, 26, 27, 28, 29, 30, 31, 32] (by decide +kernel) (by decide +kernel)
set_option maxRecDepth 20000 in
theorem gX6_chosen_X6_loadOf : GoodIn wsX6_chosen (wsV RX6 54 RX6 yX6_loadOf wsX6_loadOf) := goodIn_app (goodIn_of _ (by decide +kernel)) ggX6_chosen_X6_loadOf
set_option maxRecDepth 20000 in
theorem ggX6_chosen_X6_has : GoodIn wsX6_chosen wsX6_has := goodIn_r _ [8] (by decide +kernel) (by decide +kernel)
set_option maxRecDepth 20000 in
theorem gX6_chosen_X6_has : GoodIn wsX6_chosen (va_wsS RX6 26 yX6_has wsX6_has) := goodIn_app (goodIn_of _ (by decide +kernel)) ggX6_chosen_X6_has
theorem dX6_chosen_0 : decode cX6_chosen 0 = .ok (.iload_n 2, 1) := by decide +kernel
theorem dX6_chosen_1 : decode cX6_chosen 1 = .ok (.invokestatic 51, 3) := by decide +kernel
theorem dX6_chosen_4 : decode cX6_chosen 4 = .ok (.istore_n 3, 1) := by decide +kernel
theorem dX6_chosen_5 : decode cX6_chosen 5 = .ok (.iload_n 3, 1) := by decide +kernel
theorem dX6_chosen_6 : decode cX6_chosen 6 = .ok (.iconst 1, 1) := by decide +kernel
theorem dX6_chosen_7 : decode cX6_chosen 7 = .ok (.iadd, 1) := by decide +kernel
theorem dX6_chosen_8 : decode cX6_chosen 8 = .ok (.istore 4, 2) := by decide +kernel
theorem dX6_chosen_10 : decode cX6_chosen 10 = .ok (.iload 4, 2) := by decide +kernel
theorem dX6_chosen_12 : decode cX6_chosen 12 = .ok (.aload_n 0, 1) := by decide +kernel
theorem dX6_chosen_13 : decode cX6_chosen 13 = .ok (.getfield 7, 3) := by decide +kernel
theorem dX6_chosen_16 : decode cX6_chosen 16 = .ok (.iload_n 1, 1) := by decide +kernel
theorem dX6_chosen_17 : decode cX6_chosen 17 = .ok (.iconst 2, 1) := by decide +kernel
theorem dX6_chosen_18 : decode cX6_chosen 18 = .ok (.iadd, 1) := by decide +kernel
theorem dX6_chosen_19 : decode cX6_chosen 19 = .ok (.iaload, 1) := by decide +kernel
theorem dX6_chosen_20 : decode cX6_chosen 20 = .ok (.if_icmp .ge 87, 3) := by decide +kernel
theorem dX6_chosen_23 : decode cX6_chosen 23 = .ok (.aload_n 0, 1) := by decide +kernel
theorem dX6_chosen_24 : decode cX6_chosen 24 = .ok (.iload_n 1, 1) := by decide +kernel
theorem dX6_chosen_25 : decode cX6_chosen 25 = .ok (.iload 4, 2) := by decide +kernel
theorem dX6_chosen_27 : decode cX6_chosen 27 = .ok (.invokevirtual 54, 3) := by decide +kernel
theorem dX6_chosen_30 : decode cX6_chosen 30 = .ok (.aload_n 0, 1) := by decide +kernel
theorem dX6_chosen_31 : decode cX6_chosen 31 = .ok (.iload_n 1, 1) := by decide +kernel
theorem dX6_chosen_32 : decode cX6_chosen 32 = .ok (.iload_n 3, 1) := by decide +kernel
theorem dX6_chosen_33 : decode cX6_chosen 33 = .ok (.invokevirtual 54, 3) := by decide +kernel
theorem dX6_chosen_36 : decode cX6_chosen 36 = .ok (.isub, 1) := by decide +kernel
theorem dX6_chosen_37 : decode cX6_chosen 37 = .ok (.istore 5, 2) := by decide +kernel
theorem dX6_chosen_39 : decode cX6_chosen 39 = .ok (.aload_n 0, 1) := by decide +kernel
theorem dX6_chosen_40 : decode cX6_chosen 40 = .ok (.getfield 7, 3) := by decide +kernel
theorem dX6_chosen_43 : decode cX6_chosen 43 = .ok (.iload_n 1, 1) := by decide +kernel
theorem dX6_chosen_44 : decode cX6_chosen 44 = .ok (.iconst 3, 1) := by decide +kernel
theorem dX6_chosen_45 : decode cX6_chosen 45 = .ok (.iadd, 1) := by decide +kernel
theorem dX6_chosen_46 : decode cX6_chosen 46 = .ok (.iaload, 1) := by decide +kernel
theorem dX6_chosen_47 : decode cX6_chosen 47 = .ok (.iconst 1, 1) := by decide +kernel
theorem dX6_chosen_48 : decode cX6_chosen 48 = .ok (.if_icmp .ne 8, 3) := by decide +kernel
theorem dX6_chosen_51 : decode cX6_chosen 51 = .ok (.iload 5, 2) := by decide +kernel
theorem dX6_chosen_53 : decode cX6_chosen 53 = .ok (.ifCond .gt 20, 3) := by decide +kernel
theorem dX6_chosen_56 : decode cX6_chosen 56 = .ok (.aload_n 0, 1) := by decide +kernel
theorem dX6_chosen_57 : decode cX6_chosen 57 = .ok (.getfield 7, 3) := by decide +kernel
theorem dX6_chosen_60 : decode cX6_chosen 60 = .ok (.iload_n 1, 1) := by decide +kernel
theorem dX6_chosen_61 : decode cX6_chosen 61 = .ok (.iconst 3, 1) := by decide +kernel
theorem dX6_chosen_62 : decode cX6_chosen 62 = .ok (.iadd, 1) := by decide +kernel
theorem dX6_chosen_63 : decode cX6_chosen 63 = .ok (.iaload, 1) := by decide +kernel
theorem dX6_chosen_64 : decode cX6_chosen 64 = .ok (.iconst 2, 1) := by decide +kernel
theorem dX6_chosen_65 : decode cX6_chosen 65 = .ok (.if_icmp .ne 12, 3) := by decide +kernel
theorem dX6_chosen_68 : decode cX6_chosen 68 = .ok (.iload 5, 2) := by decide +kernel
theorem dX6_chosen_70 : decode cX6_chosen 70 = .ok (.ifCond .ge 7, 3) := by decide +kernel
theorem dX6_chosen_73 : decode cX6_chosen 73 = .ok (.iconst 1, 1) := by decide +kernel
theorem dX6_chosen_74 : decode cX6_chosen 74 = .ok (.goto 4, 3) := by decide +kernel
theorem dX6_chosen_77 : decode cX6_chosen 77 = .ok (.iconst 0, 1) := by decide +kernel
theorem dX6_chosen_78 : decode cX6_chosen 78 = .ok (.istore 6, 2) := by decide +kernel
theorem dX6_chosen_80 : decode cX6_chosen 80 = .ok (.iload_n 2, 1) := by decide +kernel
theorem dX6_chosen_81 : decode cX6_chosen 81 = .ok (.iload 4, 2) := by decide +kernel
theorem dX6_chosen_83 : decode cX6_chosen 83 = .ok (.invokestatic 26, 3) := by decide +kernel
theorem dX6_chosen_86 : decode cX6_chosen 86 = .ok (.ifCond .eq 13, 3) := by decide +kernel
theorem dX6_chosen_89 : decode cX6_chosen 89 = .ok (.iload 6, 2) := by decide +kernel
theorem dX6_chosen_91 : decode cX6_chosen 91 = .ok (.ifCond .eq 8, 3) := by decide +kernel
theorem dX6_chosen_94 : decode cX6_chosen 94 = .ok (.iload 4, 2) := by decide +kernel
theorem dX6_chosen_96 : decode cX6_chosen 96 = .ok (.goto 4, 3) := by decide +kernel
theorem dX6_chosen_99 : decode cX6_chosen 99 = .ok (.iload_n 3, 1) := by decide +kernel
theorem dX6_chosen_100 : decode cX6_chosen 100 = .ok (.istore_n 3, 1) := by decide +kernel
theorem dX6_chosen_101 : decode cX6_chosen 101 = .ok (.iinc 4 1, 3) := by decide +kernel
theorem dX6_chosen_104 : decode cX6_chosen 104 = .ok (.goto (-94), 3) := by decide +kernel
theorem dX6_chosen_107 : decode cX6_chosen 107 = .ok (.iload_n 3, 1) := by decide +kernel
theorem dX6_chosen_108 : decode cX6_chosen 108 = .ok (.ireturn, 1) := by decide +kernel
set_option maxRecDepth 20000 in
theorem ggX6_lays_X6_onLast : GoodIn wsX6_lays wsX6_onLast := goodIn_r _ [7, 2, 8, 9, 10, 6, 11, 12, 13, 14, 15, 20, 21, 22, 23, 24, 25, 26, 27, 28, 29, 30, 31] (by decide +kernel) (by decide +kernel)
set_option maxRecDepth 20000 in
theorem gX6_lays_X6_onLast : GoodIn wsX6_lays (wsV RX6 48 RX6 yX6_onLast wsX6_onLast) := goodIn_app (goodIn_of _ (by decide +kernel)) ggX6_lays_X6_onLast
set_option maxRecDepth 20000 in
theorem ggX6_lays_X6_onFirst : GoodIn wsX6_lays wsX6_onFirst := goodIn_r _ [19, 2, 8, 9, 10, 6, 11, 12, 13, 14, 15, 20, 21, 22, 23, 24, 25, 26, 27, 28, 29, 30, 31] (by decide +kernel) (by decide +kernel)
set_option maxRecDepth 20000 in
theorem gX6_lays_X6_onFirst : GoodIn wsX6_lays (wsV RX6 45 RX6 yX6_onFirst wsX6_onFirst) := goodIn_app (goodIn_of _ (by decide +kernel)) ggX6_lays_X6_onFirst
set_option maxRecDepth 20000 in
theorem ggX6_lays_X6_of : GoodIn wsX6_lays wsX6_of := goodIn_r _ [15, 2, 20, 21, 22, 23, 24, 25, 26, 27, 28, 29, 30, 31] (by decide +kernel) (by decide +kernel)
set_option maxRecDepth 20000 in
theorem gX6_lays_X6_of : GoodIn wsX6_lays (wsV RX6 41 RX6 yX6_of wsX6_of) := goodIn_app (goodIn_of _ (by decide +kernel)) ggX6_lays_X6_of
theorem dX6_lays_0 : decode cX6_lays 0 = .ok (.iconst 0, 1) := by decide +kernel
theorem dX6_lays_1 : decode cX6_lays 1 = .ok (.istore 5, 2) := by decide +kernel
theorem dX6_lays_3 : decode cX6_lays 3 = .ok (.aload_n 0, 1) := by decide +kernel
theorem dX6_lays_4 : decode cX6_lays 4 = .ok (.iload_n 1, 1) := by decide +kernel
theorem dX6_lays_5 : decode cX6_lays 5 = .ok (.iload_n 2, 1) := by decide +kernel
theorem dX6_lays_6 : decode cX6_lays 6 = .ok (.iload 4, 2) := by decide +kernel
theorem dX6_lays_8 : decode cX6_lays 8 = .ok (.invokevirtual 48, 3) := by decide +kernel
theorem dX6_lays_11 : decode cX6_lays 11 = .ok (.istore 6, 2) := by decide +kernel
theorem dX6_lays_13 : decode cX6_lays 13 = .ok (.iconst 1, 1) := by decide +kernel
theorem dX6_lays_14 : decode cX6_lays 14 = .ok (.istore 7, 2) := by decide +kernel
theorem dX6_lays_16 : decode cX6_lays 16 = .ok (.iload 6, 2) := by decide +kernel
theorem dX6_lays_18 : decode cX6_lays 18 = .ok (.iconst (-1), 1) := by decide +kernel
theorem dX6_lays_19 : decode cX6_lays 19 = .ok (.if_icmp .eq 80, 3) := by decide +kernel
theorem dX6_lays_22 : decode cX6_lays 22 = .ok (.aload_n 0, 1) := by decide +kernel
theorem dX6_lays_23 : decode cX6_lays 23 = .ok (.getfield 16, 3) := by decide +kernel
theorem dX6_lays_26 : decode cX6_lays 26 = .ok (.iload 5, 2) := by decide +kernel
theorem dX6_lays_28 : decode cX6_lays 28 = .ok (.iload 6, 2) := by decide +kernel
theorem dX6_lays_30 : decode cX6_lays 30 = .ok (.iastore, 1) := by decide +kernel
theorem dX6_lays_31 : decode cX6_lays 31 = .ok (.iinc 5 1, 3) := by decide +kernel
theorem dX6_lays_34 : decode cX6_lays 34 = .ok (.iload 7, 2) := by decide +kernel
theorem dX6_lays_36 : decode cX6_lays 36 = .ok (.ifCond .eq 23, 3) := by decide +kernel
theorem dX6_lays_39 : decode cX6_lays 39 = .ok (.aload_n 0, 1) := by decide +kernel
theorem dX6_lays_40 : decode cX6_lays 40 = .ok (.iload_n 1, 1) := by decide +kernel
theorem dX6_lays_41 : decode cX6_lays 41 = .ok (.iload 6, 2) := by decide +kernel
theorem dX6_lays_43 : decode cX6_lays 43 = .ok (.aload_n 0, 1) := by decide +kernel
theorem dX6_lays_44 : decode cX6_lays 44 = .ok (.getfield 7, 3) := by decide +kernel
theorem dX6_lays_47 : decode cX6_lays 47 = .ok (.iload_n 1, 1) := by decide +kernel
theorem dX6_lays_48 : decode cX6_lays 48 = .ok (.iconst 1, 1) := by decide +kernel
theorem dX6_lays_49 : decode cX6_lays 49 = .ok (.iadd, 1) := by decide +kernel
theorem dX6_lays_50 : decode cX6_lays 50 = .ok (.iaload, 1) := by decide +kernel
theorem dX6_lays_51 : decode cX6_lays 51 = .ok (.idiv, 1) := by decide +kernel
theorem dX6_lays_52 : decode cX6_lays 52 = .ok (.iload_n 3, 1) := by decide +kernel
theorem dX6_lays_53 : decode cX6_lays 53 = .ok (.invokevirtual 45, 3) := by decide +kernel
theorem dX6_lays_56 : decode cX6_lays 56 = .ok (.goto 26, 3) := by decide +kernel
theorem dX6_lays_59 : decode cX6_lays 59 = .ok (.aload_n 0, 1) := by decide +kernel
theorem dX6_lays_60 : decode cX6_lays 60 = .ok (.iload_n 1, 1) := by decide +kernel
theorem dX6_lays_61 : decode cX6_lays 61 = .ok (.iload_n 2, 1) := by decide +kernel
theorem dX6_lays_62 : decode cX6_lays 62 = .ok (.aload_n 0, 1) := by decide +kernel
theorem dX6_lays_63 : decode cX6_lays 63 = .ok (.iload_n 1, 1) := by decide +kernel
theorem dX6_lays_64 : decode cX6_lays 64 = .ok (.iload 6, 2) := by decide +kernel
theorem dX6_lays_66 : decode cX6_lays 66 = .ok (.iconst 1, 1) := by decide +kernel
theorem dX6_lays_67 : decode cX6_lays 67 = .ok (.invokevirtual 41, 3) := by decide +kernel
theorem dX6_lays_70 : decode cX6_lays 70 = .ok (.aload_n 0, 1) := by decide +kernel
theorem dX6_lays_71 : decode cX6_lays 71 = .ok (.getfield 7, 3) := by decide +kernel
theorem dX6_lays_74 : decode cX6_lays 74 = .ok (.iload_n 1, 1) := by decide +kernel
theorem dX6_lays_75 : decode cX6_lays 75 = .ok (.iconst 1, 1) := by decide +kernel
theorem dX6_lays_76 : decode cX6_lays 76 = .ok (.iadd, 1) := by decide +kernel
theorem dX6_lays_77 : decode cX6_lays 77 = .ok (.iaload, 1) := by decide +kernel
theorem dX6_lays_78 : decode cX6_lays 78 = .ok (.idiv, 1) := by decide +kernel
theorem dX6_lays_79 : decode cX6_lays 79 = .ok (.invokevirtual 48, 3) := by decide +kernel
theorem dX6_lays_82 : decode cX6_lays 82 = .ok (.istore 6, 2) := by decide +kernel
theorem dX6_lays_84 : decode cX6_lays 84 = .ok (.iload 7, 2) := by decide +kernel
theorem dX6_lays_86 : decode cX6_lays 86 = .ok (.ifCond .ne 7, 3) := by decide +kernel
theorem dX6_lays_89 : decode cX6_lays 89 = .ok (.iconst 1, 1) := by decide +kernel
theorem dX6_lays_90 : decode cX6_lays 90 = .ok (.goto 4, 3) := by decide +kernel
theorem dX6_lays_93 : decode cX6_lays 93 = .ok (.iconst 0, 1) := by decide +kernel
theorem dX6_lays_94 : decode cX6_lays 94 = .ok (.istore 7, 2) := by decide +kernel
theorem dX6_lays_96 : decode cX6_lays 96 = .ok (.goto (-80), 3) := by decide +kernel
theorem dX6_lays_99 : decode cX6_lays 99 = .ok (.iload 5, 2) := by decide +kernel
theorem dX6_lays_101 : decode cX6_lays 101 = .ok (.ireturn, 1) := by decide +kernel
set_option maxRecDepth 20000 in
theorem ggX6_pairOf_X6_lowest : GoodIn wsX6_pairOf wsX6_lowest := goodIn_r _ [5, 6, 7, 4, 8] (by decide +kernel) (by decide +kernel)
set_option maxRecDepth 20000 in
theorem gX6_pairOf_X6_lowest : GoodIn wsX6_pairOf (va_wsS RX6 51 yX6_lowest wsX6_lowest) := goodIn_app (goodIn_of _ (by decide +kernel)) ggX6_pairOf_X6_lowest
set_option maxRecDepth 20000 in
theorem ggX6_pairOf_X6_has : GoodIn wsX6_pairOf wsX6_has := goodIn_r _ [8] (by decide +kernel) (by decide +kernel)
set_option maxRecDepth 20000 in
theorem gX6_pairOf_X6_has : GoodIn wsX6_pairOf (va_wsS RX6 26 yX6_has wsX6_has) := goodIn_app (goodIn_of _ (by decide +kernel)) ggX6_pairOf_X6_has
set_option maxRecDepth 20000 in
theorem ggX6_pairOf_X6_lays : GoodIn wsX6_pairOf wsX6_lays := goodIn_r _ [12, 13, 1, 14, 15, 16, 4, 17, 18, 19, 20, 21, 22, 23, 24, 25, 26, 27, 28, 29, 30, 31, 32, 33, 34, 35, 36, 37, 38, 39, 40, 41] (by decide +kernel) (by decide +kernel)
set_option maxRecDepth 20000 in
theorem gX6_pairOf_X6_lays : GoodIn wsX6_pairOf (wsV RX6 58 RX6 yX6_lays wsX6_lays) := goodIn_app (goodIn_of _ (by decide +kernel)) ggX6_pairOf_X6_lays
theorem dX6_pairOf_0 : decode cX6_pairOf 0 = .ok (.aload_n 0, 1) := by decide +kernel
theorem dX6_pairOf_1 : decode cX6_pairOf 1 = .ok (.getfield 7, 3) := by decide +kernel
theorem dX6_pairOf_4 : decode cX6_pairOf 4 = .ok (.iload_n 1, 1) := by decide +kernel
theorem dX6_pairOf_5 : decode cX6_pairOf 5 = .ok (.iconst 4, 1) := by decide +kernel
theorem dX6_pairOf_6 : decode cX6_pairOf 6 = .ok (.iadd, 1) := by decide +kernel
theorem dX6_pairOf_7 : decode cX6_pairOf 7 = .ok (.iaload, 1) := by decide +kernel
theorem dX6_pairOf_8 : decode cX6_pairOf 8 = .ok (.ifCond .ne 16, 3) := by decide +kernel
theorem dX6_pairOf_11 : decode cX6_pairOf 11 = .ok (.bipush 8, 2) := by decide +kernel
theorem dX6_pairOf_13 : decode cX6_pairOf 13 = .ok (.iload_n 2, 1) := by decide +kernel
theorem dX6_pairOf_14 : decode cX6_pairOf 14 = .ok (.invokestatic 51, 3) := by decide +kernel
theorem dX6_pairOf_17 : decode cX6_pairOf 17 = .ok (.imul, 1) := by decide +kernel
theorem dX6_pairOf_18 : decode cX6_pairOf 18 = .ok (.iload_n 3, 1) := by decide +kernel
theorem dX6_pairOf_19 : decode cX6_pairOf 19 = .ok (.invokestatic 51, 3) := by decide +kernel
theorem dX6_pairOf_22 : decode cX6_pairOf 22 = .ok (.iadd, 1) := by decide +kernel
theorem dX6_pairOf_23 : decode cX6_pairOf 23 = .ok (.ireturn, 1) := by decide +kernel
theorem dX6_pairOf_24 : decode cX6_pairOf 24 = .ok (.iconst (-1), 1) := by decide +kernel
theorem dX6_pairOf_25 : decode cX6_pairOf 25 = .ok (.istore 5, 2) := by decide +kernel
theorem dX6_pairOf_27 : decode cX6_pairOf 27 = .ok (.iconst 0, 1) := by decide +kernel
theorem dX6_pairOf_28 : decode cX6_pairOf 28 = .ok (.istore 6, 2) := by decide +kernel
theorem dX6_pairOf_30 : decode cX6_pairOf 30 = .ok (.iconst 0, 1) := by decide +kernel
theorem dX6_pairOf_31 : decode cX6_pairOf 31 = .ok (.istore 7, 2) := by decide +kernel
theorem dX6_pairOf_33 : decode cX6_pairOf 33 = .ok (.iload 7, 2) := by decide +kernel
theorem dX6_pairOf_35 : decode cX6_pairOf 35 = .ok (.bipush 64, 2) := by decide +kernel
theorem dX6_pairOf_37 : decode cX6_pairOf 37 = .ok (.if_icmp .ge 100, 3) := by decide +kernel
theorem dX6_pairOf_40 : decode cX6_pairOf 40 = .ok (.iload_n 2, 1) := by decide +kernel
theorem dX6_pairOf_41 : decode cX6_pairOf 41 = .ok (.iload 7, 2) := by decide +kernel
theorem dX6_pairOf_43 : decode cX6_pairOf 43 = .ok (.bipush 8, 2) := by decide +kernel
theorem dX6_pairOf_45 : decode cX6_pairOf 45 = .ok (.idiv, 1) := by decide +kernel
theorem dX6_pairOf_46 : decode cX6_pairOf 46 = .ok (.invokestatic 26, 3) := by decide +kernel
theorem dX6_pairOf_49 : decode cX6_pairOf 49 = .ok (.ifCond .eq 82, 3) := by decide +kernel
theorem dX6_pairOf_52 : decode cX6_pairOf 52 = .ok (.iload_n 3, 1) := by decide +kernel
theorem dX6_pairOf_53 : decode cX6_pairOf 53 = .ok (.iload 7, 2) := by decide +kernel
theorem dX6_pairOf_55 : decode cX6_pairOf 55 = .ok (.bipush 8, 2) := by decide +kernel
theorem dX6_pairOf_57 : decode cX6_pairOf 57 = .ok (.irem, 1) := by decide +kernel
theorem dX6_pairOf_58 : decode cX6_pairOf 58 = .ok (.invokestatic 26, 3) := by decide +kernel
theorem dX6_pairOf_61 : decode cX6_pairOf 61 = .ok (.ifCond .eq 70, 3) := by decide +kernel
theorem dX6_pairOf_64 : decode cX6_pairOf 64 = .ok (.aload_n 0, 1) := by decide +kernel
theorem dX6_pairOf_65 : decode cX6_pairOf 65 = .ok (.iload_n 1, 1) := by decide +kernel
theorem dX6_pairOf_66 : decode cX6_pairOf 66 = .ok (.iload 7, 2) := by decide +kernel
theorem dX6_pairOf_68 : decode cX6_pairOf 68 = .ok (.bipush 8, 2) := by decide +kernel
theorem dX6_pairOf_70 : decode cX6_pairOf 70 = .ok (.idiv, 1) := by decide +kernel
theorem dX6_pairOf_71 : decode cX6_pairOf 71 = .ok (.iload 7, 2) := by decide +kernel
theorem dX6_pairOf_73 : decode cX6_pairOf 73 = .ok (.bipush 8, 2) := by decide +kernel
theorem dX6_pairOf_75 : decode cX6_pairOf 75 = .ok (.irem, 1) := by decide +kernel
theorem dX6_pairOf_76 : decode cX6_pairOf 76 = .ok (.iload 4, 2) := by decide +kernel
theorem dX6_pairOf_78 : decode cX6_pairOf 78 = .ok (.invokevirtual 58, 3) := by decide +kernel
theorem dX6_pairOf_81 : decode cX6_pairOf 81 = .ok (.istore 8, 2) := by decide +kernel
theorem dX6_pairOf_83 : decode cX6_pairOf 83 = .ok (.iload 5, 2) := by decide +kernel
theorem dX6_pairOf_85 : decode cX6_pairOf 85 = .ok (.iconst (-1), 1) := by decide +kernel
theorem dX6_pairOf_86 : decode cX6_pairOf 86 = .ok (.if_icmp .eq 10, 3) := by decide +kernel
theorem dX6_pairOf_89 : decode cX6_pairOf 89 = .ok (.iload 8, 2) := by decide +kernel
theorem dX6_pairOf_91 : decode cX6_pairOf 91 = .ok (.iload 6, 2) := by decide +kernel
theorem dX6_pairOf_93 : decode cX6_pairOf 93 = .ok (.if_icmp .ge 7, 3) := by decide +kernel
theorem dX6_pairOf_96 : decode cX6_pairOf 96 = .ok (.iconst 1, 1) := by decide +kernel
theorem dX6_pairOf_97 : decode cX6_pairOf 97 = .ok (.goto 4, 3) := by decide +kernel
theorem dX6_pairOf_100 : decode cX6_pairOf 100 = .ok (.iconst 0, 1) := by decide +kernel
theorem dX6_pairOf_101 : decode cX6_pairOf 101 = .ok (.istore 9, 2) := by decide +kernel
theorem dX6_pairOf_103 : decode cX6_pairOf 103 = .ok (.iload 9, 2) := by decide +kernel
theorem dX6_pairOf_105 : decode cX6_pairOf 105 = .ok (.ifCond .eq 8, 3) := by decide +kernel
theorem dX6_pairOf_108 : decode cX6_pairOf 108 = .ok (.iload 7, 2) := by decide +kernel
theorem dX6_pairOf_110 : decode cX6_pairOf 110 = .ok (.goto 5, 3) := by decide +kernel
theorem dX6_pairOf_113 : decode cX6_pairOf 113 = .ok (.iload 5, 2) := by decide +kernel
theorem dX6_pairOf_115 : decode cX6_pairOf 115 = .ok (.istore 5, 2) := by decide +kernel
theorem dX6_pairOf_117 : decode cX6_pairOf 117 = .ok (.iload 9, 2) := by decide +kernel
theorem dX6_pairOf_119 : decode cX6_pairOf 119 = .ok (.ifCond .eq 8, 3) := by decide +kernel
theorem dX6_pairOf_122 : decode cX6_pairOf 122 = .ok (.iload 8, 2) := by decide +kernel
theorem dX6_pairOf_124 : decode cX6_pairOf 124 = .ok (.goto 5, 3) := by decide +kernel
theorem dX6_pairOf_127 : decode cX6_pairOf 127 = .ok (.iload 6, 2) := by decide +kernel
theorem dX6_pairOf_129 : decode cX6_pairOf 129 = .ok (.istore 6, 2) := by decide +kernel
theorem dX6_pairOf_131 : decode cX6_pairOf 131 = .ok (.iinc 7 1, 3) := by decide +kernel
theorem dX6_pairOf_134 : decode cX6_pairOf 134 = .ok (.goto (-101), 3) := by decide +kernel
theorem dX6_pairOf_137 : decode cX6_pairOf 137 = .ok (.iload 5, 2) := by decide +kernel
theorem dX6_pairOf_139 : decode cX6_pairOf 139 = .ok (.ireturn, 1) := by decide +kernel
set_option maxRecDepth 20000 in
theorem ggX6_routes_X6_of : GoodIn wsX6_routes wsX6_of := goodIn_r _ [8, 1, 55, 56, 57, 58, 59, 60, 61, 62, 63, 64, 65, 66] (by decide +kernel) (by decide +kernel)
set_option maxRecDepth 20000 in
theorem gX6_routes_X6_of : GoodIn wsX6_routes (wsV RX6 41 RX6 yX6_of wsX6_of) := goodIn_app (goodIn_of _ (by decide +kernel)) ggX6_routes_X6_of
set_option maxRecDepth 20000 in
theorem ggX6_routes_X6_freeAhead : GoodIn wsX6_routes wsX6_freeAhead := goodIn_r _ [12, 1, 13, 14, 7, 15, 16, 17, 18, 19, 20, 21, 22, 23, 4, 5, 6, 8, 55, 56, 57, 58, 59, 60, 61, 62, 63, 64, 65, 66] (by decide +kernel) (by decide +kernel)
set_option maxRecDepth 20000 in
theorem gX6_routes_X6_freeAhead : GoodIn wsX6_routes (wsV RX6 62 RX6 yX6_freeAhead wsX6_freeAhead) := goodIn_app (goodIn_of _ (by decide +kernel)) ggX6_routes_X6_freeAhead
set_option maxRecDepth 20000 in
theorem ggX6_routes_X6_freeBehind : GoodIn wsX6_routes wsX6_freeBehind := goodIn_r _ [27, 1, 13, 14, 7, 15, 28, 29, 30, 31, 20, 21, 22, 23, 4, 5, 6, 8, 55, 56, 57, 58, 59, 60, 61, 62, 63, 64, 65, 66] (by decide +kernel) (by decide +kernel)
set_option maxRecDepth 20000 in
theorem gX6_routes_X6_freeBehind : GoodIn wsX6_routes (wsV RX6 65 RX6 yX6_freeBehind wsX6_freeBehind) := goodIn_app (goodIn_of _ (by decide +kernel)) ggX6_routes_X6_freeBehind
set_option maxRecDepth 20000 in
theorem ggX6_routes_X6_chosen : GoodIn wsX6_routes wsX6_chosen := goodIn_r _ [35, 1, 36, 37, 7, 38, 13, 14, 15, 39, 40, 41, 42, 20, 21, 22, 23, 4, 5, 6, 8, 55, 56, 57, 58, 59, 60, 61, 62, 63, 64, 65, 66] (by decide +kernel) (by decide +kernel)
set_option maxRecDepth 20000 in
theorem gX6_routes_X6_chosen : GoodIn wsX6_routes (wsV RX6 72 RX6 yX6_chosen wsX6_chosen) := goodIn_app (goodIn_of _ (by decide +kernel)) ggX6_routes_X6_chosen
set_option maxRecDepth 20000 in
theorem ggX6_routes_X6_lay : GoodIn wsX6_routes wsX6_lay := goodIn_r _ [46, 1, 55, 56, 57, 58, 59, 60, 61, 62, 63, 64, 65, 66] (by decide +kernel) (by decide +kernel)
set_option maxRecDepth 20000 in
theorem gX6_routes_X6_lay : GoodIn wsX6_routes (wsV RX6 38 RX6 yX6_lay wsX6_lay) := goodIn_app (goodIn_of _ (by decide +kernel)) ggX6_routes_X6_lay
set_option maxRecDepth 20000 in
theorem ggX6_routes_X6_pairOf : GoodIn wsX6_routes wsX6_pairOf := goodIn_r _ [50, 1, 36, 37, 7, 38, 13, 14, 15, 51, 52, 53, 54, 3, 28, 29, 30, 31, 20, 21, 22, 23, 4, 5, 6, 8, 16, 17, 18, 19, 55, 56, 57, 58, 59, 60, 61, 62, 63, 64, 65, 66] (by decide +kernel) (by decide +kernel)
set_option maxRecDepth 20000 in
theorem gX6_routes_X6_pairOf : GoodIn wsX6_routes (wsV RX6 75 RX6 yX6_pairOf wsX6_pairOf) := goodIn_app (goodIn_of _ (by decide +kernel)) ggX6_routes_X6_pairOf
set_option maxRecDepth 20000 in
theorem ggX6_routes_X6_lays : GoodIn wsX6_routes wsX6_lays := goodIn_r _ [54, 3, 1, 28, 29, 30, 7, 31, 20, 21, 22, 23, 4, 5, 6, 8, 16, 17, 18, 19, 55, 56, 57, 58, 59, 60, 61, 62, 63, 64, 65, 66] (by decide +kernel) (by decide +kernel)
set_option maxRecDepth 20000 in
theorem gX6_routes_X6_lays : GoodIn wsX6_routes (wsV RX6 58 RX6 yX6_lays wsX6_lays) := goodIn_app (goodIn_of _ (by decide +kernel)) ggX6_routes_X6_lays
theorem dX6_routes_0 : decode cX6_routes 0 = .ok (.aload_n 0, 1) := by decide +kernel
theorem dX6_routes_1 : decode cX6_routes 1 = .ok (.iload_n 1, 1) := by decide +kernel
theorem dX6_routes_2 : decode cX6_routes 2 = .ok (.iload_n 2, 1) := by decide +kernel
theorem dX6_routes_3 : decode cX6_routes 3 = .ok (.iconst 1, 1) := by decide +kernel
theorem dX6_routes_4 : decode cX6_routes 4 = .ok (.invokevirtual 41, 3) := by decide +kernel
theorem dX6_routes_7 : decode cX6_routes 7 = .ok (.aload_n 0, 1) := by decide +kernel
theorem dX6_routes_8 : decode cX6_routes 8 = .ok (.getfield 7, 3) := by decide +kernel
theorem dX6_routes_11 : decode cX6_routes 11 = .ok (.iload_n 1, 1) := by decide +kernel
theorem dX6_routes_12 : decode cX6_routes 12 = .ok (.iconst 1, 1) := by decide +kernel
theorem dX6_routes_13 : decode cX6_routes 13 = .ok (.iadd, 1) := by decide +kernel
theorem dX6_routes_14 : decode cX6_routes 14 = .ok (.iaload, 1) := by decide +kernel
theorem dX6_routes_15 : decode cX6_routes 15 = .ok (.idiv, 1) := by decide +kernel
theorem dX6_routes_16 : decode cX6_routes 16 = .ok (.istore_n 3, 1) := by decide +kernel
theorem dX6_routes_17 : decode cX6_routes 17 = .ok (.aload_n 0, 1) := by decide +kernel
theorem dX6_routes_18 : decode cX6_routes 18 = .ok (.iload_n 1, 1) := by decide +kernel
theorem dX6_routes_19 : decode cX6_routes 19 = .ok (.iload_n 2, 1) := by decide +kernel
theorem dX6_routes_20 : decode cX6_routes 20 = .ok (.aload_n 0, 1) := by decide +kernel
theorem dX6_routes_21 : decode cX6_routes 21 = .ok (.getfield 7, 3) := by decide +kernel
theorem dX6_routes_24 : decode cX6_routes 24 = .ok (.iload_n 1, 1) := by decide +kernel
theorem dX6_routes_25 : decode cX6_routes 25 = .ok (.iconst 1, 1) := by decide +kernel
theorem dX6_routes_26 : decode cX6_routes 26 = .ok (.iadd, 1) := by decide +kernel
theorem dX6_routes_27 : decode cX6_routes 27 = .ok (.iaload, 1) := by decide +kernel
theorem dX6_routes_28 : decode cX6_routes 28 = .ok (.idiv, 1) := by decide +kernel
theorem dX6_routes_29 : decode cX6_routes 29 = .ok (.invokevirtual 62, 3) := by decide +kernel
theorem dX6_routes_32 : decode cX6_routes 32 = .ok (.istore 4, 2) := by decide +kernel
theorem dX6_routes_34 : decode cX6_routes 34 = .ok (.aload_n 0, 1) := by decide +kernel
theorem dX6_routes_35 : decode cX6_routes 35 = .ok (.iload_n 1, 1) := by decide +kernel
theorem dX6_routes_36 : decode cX6_routes 36 = .ok (.iload_n 3, 1) := by decide +kernel
theorem dX6_routes_37 : decode cX6_routes 37 = .ok (.invokevirtual 65, 3) := by decide +kernel
theorem dX6_routes_40 : decode cX6_routes 40 = .ok (.istore 5, 2) := by decide +kernel
theorem dX6_routes_42 : decode cX6_routes 42 = .ok (.aload_n 0, 1) := by decide +kernel
theorem dX6_routes_43 : decode cX6_routes 43 = .ok (.iconst 0, 1) := by decide +kernel
theorem dX6_routes_44 : decode cX6_routes 44 = .ok (.putfield 68, 3) := by decide +kernel
theorem dX6_routes_47 : decode cX6_routes 47 = .ok (.iload 4, 2) := by decide +kernel
theorem dX6_routes_49 : decode cX6_routes 49 = .ok (.ifCond .eq 8, 3) := by decide +kernel
theorem dX6_routes_52 : decode cX6_routes 52 = .ok (.iload 5, 2) := by decide +kernel
theorem dX6_routes_54 : decode cX6_routes 54 = .ok (.ifCond .ne 6, 3) := by decide +kernel
theorem dX6_routes_57 : decode cX6_routes 57 = .ok (.bipush (-4), 2) := by decide +kernel
theorem dX6_routes_59 : decode cX6_routes 59 = .ok (.ireturn, 1) := by decide +kernel
theorem dX6_routes_60 : decode cX6_routes 60 = .ok (.iload 4, 2) := by decide +kernel
theorem dX6_routes_62 : decode cX6_routes 62 = .ok (.iload 5, 2) := by decide +kernel
theorem dX6_routes_64 : decode cX6_routes 64 = .ok (.iand, 1) := by decide +kernel
theorem dX6_routes_65 : decode cX6_routes 65 = .ok (.ifCond .eq 28, 3) := by decide +kernel
theorem dX6_routes_68 : decode cX6_routes 68 = .ok (.aload_n 0, 1) := by decide +kernel
theorem dX6_routes_69 : decode cX6_routes 69 = .ok (.iload_n 1, 1) := by decide +kernel
theorem dX6_routes_70 : decode cX6_routes 70 = .ok (.iload_n 2, 1) := by decide +kernel
theorem dX6_routes_71 : decode cX6_routes 71 = .ok (.iconst 2, 1) := by decide +kernel
theorem dX6_routes_72 : decode cX6_routes 72 = .ok (.aload_n 0, 1) := by decide +kernel
theorem dX6_routes_73 : decode cX6_routes 73 = .ok (.iload_n 1, 1) := by decide +kernel
theorem dX6_routes_74 : decode cX6_routes 74 = .ok (.iload 4, 2) := by decide +kernel
theorem dX6_routes_76 : decode cX6_routes 76 = .ok (.iload 5, 2) := by decide +kernel
theorem dX6_routes_78 : decode cX6_routes 78 = .ok (.iand, 1) := by decide +kernel
theorem dX6_routes_79 : decode cX6_routes 79 = .ok (.invokevirtual 72, 3) := by decide +kernel
theorem dX6_routes_82 : decode cX6_routes 82 = .ok (.invokevirtual 38, 3) := by decide +kernel
theorem dX6_routes_85 : decode cX6_routes 85 = .ok (.aload_n 0, 1) := by decide +kernel
theorem dX6_routes_86 : decode cX6_routes 86 = .ok (.iload_n 1, 1) := by decide +kernel
theorem dX6_routes_87 : decode cX6_routes 87 = .ok (.iload_n 2, 1) := by decide +kernel
theorem dX6_routes_88 : decode cX6_routes 88 = .ok (.iconst 2, 1) := by decide +kernel
theorem dX6_routes_89 : decode cX6_routes 89 = .ok (.invokevirtual 41, 3) := by decide +kernel
theorem dX6_routes_92 : decode cX6_routes 92 = .ok (.ireturn, 1) := by decide +kernel
theorem dX6_routes_93 : decode cX6_routes 93 = .ok (.aload_n 0, 1) := by decide +kernel
theorem dX6_routes_94 : decode cX6_routes 94 = .ok (.iload_n 1, 1) := by decide +kernel
theorem dX6_routes_95 : decode cX6_routes 95 = .ok (.iload 4, 2) := by decide +kernel
theorem dX6_routes_97 : decode cX6_routes 97 = .ok (.iload 5, 2) := by decide +kernel
theorem dX6_routes_99 : decode cX6_routes 99 = .ok (.iload_n 3, 1) := by decide +kernel
theorem dX6_routes_100 : decode cX6_routes 100 = .ok (.invokevirtual 75, 3) := by decide +kernel
theorem dX6_routes_103 : decode cX6_routes 103 = .ok (.istore 6, 2) := by decide +kernel
theorem dX6_routes_105 : decode cX6_routes 105 = .ok (.iload 6, 2) := by decide +kernel
theorem dX6_routes_107 : decode cX6_routes 107 = .ok (.bipush 8, 2) := by decide +kernel
theorem dX6_routes_109 : decode cX6_routes 109 = .ok (.idiv, 1) := by decide +kernel
theorem dX6_routes_110 : decode cX6_routes 110 = .ok (.istore 7, 2) := by decide +kernel
theorem dX6_routes_112 : decode cX6_routes 112 = .ok (.aload_n 0, 1) := by decide +kernel
theorem dX6_routes_113 : decode cX6_routes 113 = .ok (.aload_n 0, 1) := by decide +kernel
theorem dX6_routes_114 : decode cX6_routes 114 = .ok (.iload_n 1, 1) := by decide +kernel
theorem dX6_routes_115 : decode cX6_routes 115 = .ok (.iload 7, 2) := by decide +kernel
theorem dX6_routes_117 : decode cX6_routes 117 = .ok (.iload 6, 2) := by decide +kernel
theorem dX6_routes_119 : decode cX6_routes 119 = .ok (.bipush 8, 2) := by decide +kernel
theorem dX6_routes_121 : decode cX6_routes 121 = .ok (.irem, 1) := by decide +kernel
theorem dX6_routes_122 : decode cX6_routes 122 = .ok (.iload_n 3, 1) := by decide +kernel
theorem dX6_routes_123 : decode cX6_routes 123 = .ok (.invokevirtual 58, 3) := by decide +kernel
theorem dX6_routes_126 : decode cX6_routes 126 = .ok (.putfield 68, 3) := by decide +kernel
theorem dX6_routes_129 : decode cX6_routes 129 = .ok (.iconst 0, 1) := by decide +kernel
theorem dX6_routes_130 : decode cX6_routes 130 = .ok (.istore 8, 2) := by decide +kernel
theorem dX6_routes_132 : decode cX6_routes 132 = .ok (.iload 8, 2) := by decide +kernel
theorem dX6_routes_134 : decode cX6_routes 134 = .ok (.aload_n 0, 1) := by decide +kernel
theorem dX6_routes_135 : decode cX6_routes 135 = .ok (.getfield 68, 3) := by decide +kernel
theorem dX6_routes_138 : decode cX6_routes 138 = .ok (.if_icmp .ge 44, 3) := by decide +kernel
theorem dX6_routes_141 : decode cX6_routes 141 = .ok (.aload_n 0, 1) := by decide +kernel
theorem dX6_routes_142 : decode cX6_routes 142 = .ok (.iload_n 1, 1) := by decide +kernel
theorem dX6_routes_143 : decode cX6_routes 143 = .ok (.aload_n 0, 1) := by decide +kernel
theorem dX6_routes_144 : decode cX6_routes 144 = .ok (.getfield 16, 3) := by decide +kernel
theorem dX6_routes_147 : decode cX6_routes 147 = .ok (.iload 8, 2) := by decide +kernel
theorem dX6_routes_149 : decode cX6_routes 149 = .ok (.iaload, 1) := by decide +kernel
theorem dX6_routes_150 : decode cX6_routes 150 = .ok (.iconst 2, 1) := by decide +kernel
theorem dX6_routes_151 : decode cX6_routes 151 = .ok (.iload 7, 2) := by decide +kernel
theorem dX6_routes_153 : decode cX6_routes 153 = .ok (.iload 6, 2) := by decide +kernel
theorem dX6_routes_155 : decode cX6_routes 155 = .ok (.bipush 8, 2) := by decide +kernel
theorem dX6_routes_157 : decode cX6_routes 157 = .ok (.irem, 1) := by decide +kernel
theorem dX6_routes_158 : decode cX6_routes 158 = .ok (.iadd, 1) := by decide +kernel
theorem dX6_routes_159 : decode cX6_routes 159 = .ok (.aload_n 0, 1) := by decide +kernel
theorem dX6_routes_160 : decode cX6_routes 160 = .ok (.iload_n 1, 1) := by decide +kernel
theorem dX6_routes_161 : decode cX6_routes 161 = .ok (.aload_n 0, 1) := by decide +kernel
theorem dX6_routes_162 : decode cX6_routes 162 = .ok (.getfield 16, 3) := by decide +kernel
theorem dX6_routes_165 : decode cX6_routes 165 = .ok (.iload 8, 2) := by decide +kernel
theorem dX6_routes_167 : decode cX6_routes 167 = .ok (.iaload, 1) := by decide +kernel
theorem dX6_routes_168 : decode cX6_routes 168 = .ok (.iconst 2, 1) := by decide +kernel
theorem dX6_routes_169 : decode cX6_routes 169 = .ok (.invokevirtual 41, 3) := by decide +kernel
theorem dX6_routes_172 : decode cX6_routes 172 = .ok (.isub, 1) := by decide +kernel
theorem dX6_routes_173 : decode cX6_routes 173 = .ok (.invokevirtual 38, 3) := by decide +kernel
theorem dX6_routes_176 : decode cX6_routes 176 = .ok (.iinc 8 1, 3) := by decide +kernel
theorem dX6_routes_179 : decode cX6_routes 179 = .ok (.goto (-47), 3) := by decide +kernel
theorem dX6_routes_182 : decode cX6_routes 182 = .ok (.aload_n 0, 1) := by decide +kernel
theorem dX6_routes_183 : decode cX6_routes 183 = .ok (.getfield 7, 3) := by decide +kernel
theorem dX6_routes_186 : decode cX6_routes 186 = .ok (.iload_n 1, 1) := by decide +kernel
theorem dX6_routes_187 : decode cX6_routes 187 = .ok (.bipush 8, 2) := by decide +kernel
theorem dX6_routes_189 : decode cX6_routes 189 = .ok (.iadd, 1) := by decide +kernel
theorem dX6_routes_190 : decode cX6_routes 190 = .ok (.dup2, 1) := by decide +kernel
theorem dX6_routes_191 : decode cX6_routes 191 = .ok (.iaload, 1) := by decide +kernel
theorem dX6_routes_192 : decode cX6_routes 192 = .ok (.aload_n 0, 1) := by decide +kernel
theorem dX6_routes_193 : decode cX6_routes 193 = .ok (.getfield 68, 3) := by decide +kernel
theorem dX6_routes_196 : decode cX6_routes 196 = .ok (.iadd, 1) := by decide +kernel
theorem dX6_routes_197 : decode cX6_routes 197 = .ok (.iastore, 1) := by decide +kernel
theorem dX6_routes_198 : decode cX6_routes 198 = .ok (.aload_n 0, 1) := by decide +kernel
theorem dX6_routes_199 : decode cX6_routes 199 = .ok (.iload_n 1, 1) := by decide +kernel
theorem dX6_routes_200 : decode cX6_routes 200 = .ok (.iload_n 2, 1) := by decide +kernel
theorem dX6_routes_201 : decode cX6_routes 201 = .ok (.iconst 2, 1) := by decide +kernel
theorem dX6_routes_202 : decode cX6_routes 202 = .ok (.iload 7, 2) := by decide +kernel
theorem dX6_routes_204 : decode cX6_routes 204 = .ok (.invokevirtual 38, 3) := by decide +kernel
theorem dX6_routes_207 : decode cX6_routes 207 = .ok (.iload 7, 2) := by decide +kernel
theorem dX6_routes_209 : decode cX6_routes 209 = .ok (.ireturn, 1) := by decide +kernel
set_option maxRecDepth 20000 in
theorem ggX6_nextOff_X6_lines : GoodIn wsX6_nextOff wsX6_lines := goodIn_r _ [5, 6, 11, 12, 13, 14, 15, 16, 17, 18, 19, 20, 21, 22] (by decide +kernel) (by decide +kernel)
set_option maxRecDepth 20000 in
theorem gX6_nextOff_X6_lines : GoodIn wsX6_nextOff (wsV RX6 30 RX6 yX6_lines wsX6_lines) := goodIn_app (goodIn_of _ (by decide +kernel)) ggX6_nextOff_X6_lines
set_option maxRecDepth 20000 in
theorem ggX6_nextOff_X6_of : GoodIn wsX6_nextOff wsX6_of := goodIn_r _ [10, 6, 11, 12, 13, 14, 15, 16, 17, 18, 19, 20, 21, 22] (by decide +kernel) (by decide +kernel)
set_option maxRecDepth 20000 in
theorem gX6_nextOff_X6_of : GoodIn wsX6_nextOff (wsV RX6 41 RX6 yX6_of wsX6_of) := goodIn_app (goodIn_of _ (by decide +kernel)) ggX6_nextOff_X6_of
theorem dX6_nextOff_0 : decode cX6_nextOff 0 = .ok (.iconst (-1), 1) := by decide +kernel
theorem dX6_nextOff_1 : decode cX6_nextOff 1 = .ok (.istore_n 2, 1) := by decide +kernel
theorem dX6_nextOff_2 : decode cX6_nextOff 2 = .ok (.iconst 0, 1) := by decide +kernel
theorem dX6_nextOff_3 : decode cX6_nextOff 3 = .ok (.istore_n 3, 1) := by decide +kernel
theorem dX6_nextOff_4 : decode cX6_nextOff 4 = .ok (.iload_n 3, 1) := by decide +kernel
theorem dX6_nextOff_5 : decode cX6_nextOff 5 = .ok (.aload_n 0, 1) := by decide +kernel
theorem dX6_nextOff_6 : decode cX6_nextOff 6 = .ok (.iload_n 1, 1) := by decide +kernel
theorem dX6_nextOff_7 : decode cX6_nextOff 7 = .ok (.invokevirtual 30, 3) := by decide +kernel
theorem dX6_nextOff_10 : decode cX6_nextOff 10 = .ok (.if_icmp .ge 71, 3) := by decide +kernel
theorem dX6_nextOff_13 : decode cX6_nextOff 13 = .ok (.aload_n 0, 1) := by decide +kernel
theorem dX6_nextOff_14 : decode cX6_nextOff 14 = .ok (.iload_n 1, 1) := by decide +kernel
theorem dX6_nextOff_15 : decode cX6_nextOff 15 = .ok (.iload_n 3, 1) := by decide +kernel
theorem dX6_nextOff_16 : decode cX6_nextOff 16 = .ok (.iconst 0, 1) := by decide +kernel
theorem dX6_nextOff_17 : decode cX6_nextOff 17 = .ok (.invokevirtual 41, 3) := by decide +kernel
theorem dX6_nextOff_20 : decode cX6_nextOff 20 = .ok (.iconst (-1), 1) := by decide +kernel
theorem dX6_nextOff_21 : decode cX6_nextOff 21 = .ok (.if_icmp .eq 18, 3) := by decide +kernel
theorem dX6_nextOff_24 : decode cX6_nextOff 24 = .ok (.aload_n 0, 1) := by decide +kernel
theorem dX6_nextOff_25 : decode cX6_nextOff 25 = .ok (.iload_n 1, 1) := by decide +kernel
theorem dX6_nextOff_26 : decode cX6_nextOff 26 = .ok (.iload_n 3, 1) := by decide +kernel
theorem dX6_nextOff_27 : decode cX6_nextOff 27 = .ok (.iconst 2, 1) := by decide +kernel
theorem dX6_nextOff_28 : decode cX6_nextOff 28 = .ok (.invokevirtual 41, 3) := by decide +kernel
theorem dX6_nextOff_31 : decode cX6_nextOff 31 = .ok (.iconst (-1), 1) := by decide +kernel
theorem dX6_nextOff_32 : decode cX6_nextOff 32 = .ok (.if_icmp .ne 7, 3) := by decide +kernel
theorem dX6_nextOff_35 : decode cX6_nextOff 35 = .ok (.iconst 1, 1) := by decide +kernel
theorem dX6_nextOff_36 : decode cX6_nextOff 36 = .ok (.goto 4, 3) := by decide +kernel
theorem dX6_nextOff_39 : decode cX6_nextOff 39 = .ok (.iconst 0, 1) := by decide +kernel
theorem dX6_nextOff_40 : decode cX6_nextOff 40 = .ok (.istore 4, 2) := by decide +kernel
theorem dX6_nextOff_42 : decode cX6_nextOff 42 = .ok (.iload 4, 2) := by decide +kernel
theorem dX6_nextOff_44 : decode cX6_nextOff 44 = .ok (.ifCond .eq 29, 3) := by decide +kernel
theorem dX6_nextOff_47 : decode cX6_nextOff 47 = .ok (.iload_n 2, 1) := by decide +kernel
theorem dX6_nextOff_48 : decode cX6_nextOff 48 = .ok (.iconst (-1), 1) := by decide +kernel
theorem dX6_nextOff_49 : decode cX6_nextOff 49 = .ok (.if_icmp .eq 20, 3) := by decide +kernel
theorem dX6_nextOff_52 : decode cX6_nextOff 52 = .ok (.aload_n 0, 1) := by decide +kernel
theorem dX6_nextOff_53 : decode cX6_nextOff 53 = .ok (.iload_n 1, 1) := by decide +kernel
theorem dX6_nextOff_54 : decode cX6_nextOff 54 = .ok (.iload_n 3, 1) := by decide +kernel
theorem dX6_nextOff_55 : decode cX6_nextOff 55 = .ok (.iconst 0, 1) := by decide +kernel
theorem dX6_nextOff_56 : decode cX6_nextOff 56 = .ok (.invokevirtual 41, 3) := by decide +kernel
theorem dX6_nextOff_59 : decode cX6_nextOff 59 = .ok (.aload_n 0, 1) := by decide +kernel
theorem dX6_nextOff_60 : decode cX6_nextOff 60 = .ok (.iload_n 1, 1) := by decide +kernel
theorem dX6_nextOff_61 : decode cX6_nextOff 61 = .ok (.iload_n 2, 1) := by decide +kernel
theorem dX6_nextOff_62 : decode cX6_nextOff 62 = .ok (.iconst 0, 1) := by decide +kernel
theorem dX6_nextOff_63 : decode cX6_nextOff 63 = .ok (.invokevirtual 41, 3) := by decide +kernel
theorem dX6_nextOff_66 : decode cX6_nextOff 66 = .ok (.if_icmp .ge 7, 3) := by decide +kernel
theorem dX6_nextOff_69 : decode cX6_nextOff 69 = .ok (.iload_n 3, 1) := by decide +kernel
theorem dX6_nextOff_70 : decode cX6_nextOff 70 = .ok (.goto 4, 3) := by decide +kernel
theorem dX6_nextOff_73 : decode cX6_nextOff 73 = .ok (.iload_n 2, 1) := by decide +kernel
theorem dX6_nextOff_74 : decode cX6_nextOff 74 = .ok (.istore_n 2, 1) := by decide +kernel
theorem dX6_nextOff_75 : decode cX6_nextOff 75 = .ok (.iinc 3 1, 3) := by decide +kernel
theorem dX6_nextOff_78 : decode cX6_nextOff 78 = .ok (.goto (-74), 3) := by decide +kernel
theorem dX6_nextOff_81 : decode cX6_nextOff 81 = .ok (.iload_n 2, 1) := by decide +kernel
theorem dX6_nextOff_82 : decode cX6_nextOff 82 = .ok (.ireturn, 1) := by decide +kernel
set_option maxRecDepth 20000 in
theorem ggX6_connects_X6_isLine : GoodIn wsX6_connects wsX6_isLine := goodIn_r _ [6, 7, 8, 9, 5, 10, 1, 11, 12, 13, 70, 71, 72, 73, 74, 75, 76, 77, 78, 79, 80, 81] (by decide +kernel) (by decide +kernel)
set_option maxRecDepth 20000 in
theorem gX6_connects_X6_isLine : GoodIn wsX6_connects (wsV RX6 78 RX6 yX6_isLine wsX6_isLine) := goodIn_app (goodIn_of _ (by decide +kernel)) ggX6_connects_X6_isLine
set_option maxRecDepth 20000 in
theorem ggX6_connects_X6_of : GoodIn wsX6_connects wsX6_of := goodIn_r _ [17, 1, 70, 71, 72, 73, 74, 75, 76, 77, 78, 79, 80, 81] (by decide +kernel) (by decide +kernel)
set_option maxRecDepth 20000 in
theorem gX6_connects_X6_of : GoodIn wsX6_connects (wsV RX6 41 RX6 yX6_of wsX6_of) := goodIn_app (goodIn_of _ (by decide +kernel)) ggX6_connects_X6_of
set_option maxRecDepth 20000 in
theorem ggX6_connects_X6_inletTo : GoodIn wsX6_connects wsX6_inletTo := goodIn_r _ [21, 7, 8, 9, 5, 10, 1, 14, 15, 16, 17, 70, 71, 72, 73, 74, 75, 76, 77, 78, 79, 80, 81] (by decide +kernel) (by decide +kernel)
set_option maxRecDepth 20000 in
theorem gX6_connects_X6_inletTo : GoodIn wsX6_connects (wsV RX6 81 RX6 yX6_inletTo wsX6_inletTo) := goodIn_app (goodIn_of _ (by decide +kernel)) ggX6_connects_X6_inletTo
set_option maxRecDepth 20000 in
theorem ggX6_connects_X6_lay : GoodIn wsX6_connects wsX6_lay := goodIn_r _ [25, 1, 70, 71, 72, 73, 74, 75, 76, 77, 78, 79, 80, 81] (by decide +kernel) (by decide +kernel)
set_option maxRecDepth 20000 in
theorem gX6_connects_X6_lay : GoodIn wsX6_connects (wsV RX6 38 RX6 yX6_lay wsX6_lay) := goodIn_app (goodIn_of _ (by decide +kernel)) ggX6_connects_X6_lay
set_option maxRecDepth 20000 in
theorem ggX6_connects_X6_routes : GoodIn wsX6_connects wsX6_routes := goodIn_r _ [29, 1, 30, 31, 14, 15, 16, 5, 17, 32, 33, 34, 35, 36, 37, 38, 39, 40, 41, 42, 7, 8, 9, 10, 43, 44, 45, 46, 47, 48, 49, 50, 51, 52, 53, 54, 55, 56, 57, 58, 59, 60, 61, 22, 23, 24, 25, 62, 63, 64, 65, 66, 67, 68, 69, 70, 71, 72, 73, 74, 75, 76, 77, 78, 79, 80, 81] (by decide +kernel) (by decide +kernel)
set_option maxRecDepth 20000 in
theorem gX6_connects_X6_routes : GoodIn wsX6_connects (wsV RX6 84 RX6 yX6_routes wsX6_routes) := goodIn_app (goodIn_of _ (by decide +kernel)) ggX6_connects_X6_routes
theorem dX6_connects_0 : decode cX6_connects 0 = .ok (.aload_n 0, 1) := by decide +kernel
theorem dX6_connects_1 : decode cX6_connects 1 = .ok (.iload_n 1, 1) := by decide +kernel
theorem dX6_connects_2 : decode cX6_connects 2 = .ok (.iload_n 2, 1) := by decide +kernel
theorem dX6_connects_3 : decode cX6_connects 3 = .ok (.invokevirtual 78, 3) := by decide +kernel
theorem dX6_connects_6 : decode cX6_connects 6 = .ok (.ifCond .eq 12, 3) := by decide +kernel
theorem dX6_connects_9 : decode cX6_connects 9 = .ok (.aload_n 0, 1) := by decide +kernel
theorem dX6_connects_10 : decode cX6_connects 10 = .ok (.iload_n 1, 1) := by decide +kernel
theorem dX6_connects_11 : decode cX6_connects 11 = .ok (.iload_n 3, 1) := by decide +kernel
theorem dX6_connects_12 : decode cX6_connects 12 = .ok (.invokevirtual 78, 3) := by decide +kernel
theorem dX6_connects_15 : decode cX6_connects 15 = .ok (.ifCond .ne 5, 3) := by decide +kernel
theorem dX6_connects_18 : decode cX6_connects 18 = .ok (.iconst (-1), 1) := by decide +kernel
theorem dX6_connects_19 : decode cX6_connects 19 = .ok (.ireturn, 1) := by decide +kernel
theorem dX6_connects_20 : decode cX6_connects 20 = .ok (.aload_n 0, 1) := by decide +kernel
theorem dX6_connects_21 : decode cX6_connects 21 = .ok (.iload_n 1, 1) := by decide +kernel
theorem dX6_connects_22 : decode cX6_connects 22 = .ok (.iload_n 2, 1) := by decide +kernel
theorem dX6_connects_23 : decode cX6_connects 23 = .ok (.iconst 0, 1) := by decide +kernel
theorem dX6_connects_24 : decode cX6_connects 24 = .ok (.invokevirtual 41, 3) := by decide +kernel
theorem dX6_connects_27 : decode cX6_connects 27 = .ok (.iconst (-1), 1) := by decide +kernel
theorem dX6_connects_28 : decode cX6_connects 28 = .ok (.if_icmp .ne 13, 3) := by decide +kernel
theorem dX6_connects_31 : decode cX6_connects 31 = .ok (.aload_n 0, 1) := by decide +kernel
theorem dX6_connects_32 : decode cX6_connects 32 = .ok (.iload_n 1, 1) := by decide +kernel
theorem dX6_connects_33 : decode cX6_connects 33 = .ok (.iload_n 3, 1) := by decide +kernel
theorem dX6_connects_34 : decode cX6_connects 34 = .ok (.invokevirtual 81, 3) := by decide +kernel
theorem dX6_connects_37 : decode cX6_connects 37 = .ok (.iconst (-1), 1) := by decide +kernel
theorem dX6_connects_38 : decode cX6_connects 38 = .ok (.if_icmp .eq 6, 3) := by decide +kernel
theorem dX6_connects_41 : decode cX6_connects 41 = .ok (.bipush (-3), 2) := by decide +kernel
theorem dX6_connects_43 : decode cX6_connects 43 = .ok (.ireturn, 1) := by decide +kernel
theorem dX6_connects_44 : decode cX6_connects 44 = .ok (.aload_n 0, 1) := by decide +kernel
theorem dX6_connects_45 : decode cX6_connects 45 = .ok (.iload_n 1, 1) := by decide +kernel
theorem dX6_connects_46 : decode cX6_connects 46 = .ok (.iload_n 2, 1) := by decide +kernel
theorem dX6_connects_47 : decode cX6_connects 47 = .ok (.iconst 0, 1) := by decide +kernel
theorem dX6_connects_48 : decode cX6_connects 48 = .ok (.aload_n 0, 1) := by decide +kernel
theorem dX6_connects_49 : decode cX6_connects 49 = .ok (.getfield 7, 3) := by decide +kernel
theorem dX6_connects_52 : decode cX6_connects 52 = .ok (.iload_n 1, 1) := by decide +kernel
theorem dX6_connects_53 : decode cX6_connects 53 = .ok (.iconst 5, 1) := by decide +kernel
theorem dX6_connects_54 : decode cX6_connects 54 = .ok (.iadd, 1) := by decide +kernel
theorem dX6_connects_55 : decode cX6_connects 55 = .ok (.iaload, 1) := by decide +kernel
theorem dX6_connects_56 : decode cX6_connects 56 = .ok (.invokevirtual 38, 3) := by decide +kernel
theorem dX6_connects_59 : decode cX6_connects 59 = .ok (.aload_n 0, 1) := by decide +kernel
theorem dX6_connects_60 : decode cX6_connects 60 = .ok (.iload_n 1, 1) := by decide +kernel
theorem dX6_connects_61 : decode cX6_connects 61 = .ok (.iload_n 2, 1) := by decide +kernel
theorem dX6_connects_62 : decode cX6_connects 62 = .ok (.iconst 1, 1) := by decide +kernel
theorem dX6_connects_63 : decode cX6_connects 63 = .ok (.iload_n 3, 1) := by decide +kernel
theorem dX6_connects_64 : decode cX6_connects 64 = .ok (.invokevirtual 38, 3) := by decide +kernel
theorem dX6_connects_67 : decode cX6_connects 67 = .ok (.aload_n 0, 1) := by decide +kernel
theorem dX6_connects_68 : decode cX6_connects 68 = .ok (.iload_n 1, 1) := by decide +kernel
theorem dX6_connects_69 : decode cX6_connects 69 = .ok (.iload_n 2, 1) := by decide +kernel
theorem dX6_connects_70 : decode cX6_connects 70 = .ok (.iconst 2, 1) := by decide +kernel
theorem dX6_connects_71 : decode cX6_connects 71 = .ok (.iconst (-1), 1) := by decide +kernel
theorem dX6_connects_72 : decode cX6_connects 72 = .ok (.invokevirtual 38, 3) := by decide +kernel
theorem dX6_connects_75 : decode cX6_connects 75 = .ok (.aload_n 0, 1) := by decide +kernel
theorem dX6_connects_76 : decode cX6_connects 76 = .ok (.getfield 7, 3) := by decide +kernel
theorem dX6_connects_79 : decode cX6_connects 79 = .ok (.iload_n 1, 1) := by decide +kernel
theorem dX6_connects_80 : decode cX6_connects 80 = .ok (.iconst 5, 1) := by decide +kernel
theorem dX6_connects_81 : decode cX6_connects 81 = .ok (.iadd, 1) := by decide +kernel
theorem dX6_connects_82 : decode cX6_connects 82 = .ok (.dup2, 1) := by decide +kernel
theorem dX6_connects_83 : decode cX6_connects 83 = .ok (.iaload, 1) := by decide +kernel
theorem dX6_connects_84 : decode cX6_connects 84 = .ok (.iconst 1, 1) := by decide +kernel
theorem dX6_connects_85 : decode cX6_connects 85 = .ok (.iadd, 1) := by decide +kernel
theorem dX6_connects_86 : decode cX6_connects 86 = .ok (.iastore, 1) := by decide +kernel
theorem dX6_connects_87 : decode cX6_connects 87 = .ok (.aload_n 0, 1) := by decide +kernel
theorem dX6_connects_88 : decode cX6_connects 88 = .ok (.iload_n 1, 1) := by decide +kernel
theorem dX6_connects_89 : decode cX6_connects 89 = .ok (.iload_n 2, 1) := by decide +kernel
theorem dX6_connects_90 : decode cX6_connects 90 = .ok (.invokevirtual 84, 3) := by decide +kernel
theorem dX6_connects_93 : decode cX6_connects 93 = .ok (.ireturn, 1) := by decide +kernel
set_option maxRecDepth 20000 in
theorem ggX6_disconnects_X6_isLine : GoodIn wsX6_disconnects wsX6_isLine := goodIn_r _ [6, 7, 8, 9, 5, 10, 1, 11, 12, 13, 22, 23, 24, 25, 26, 27, 28, 29, 30, 31, 32, 33] (by decide +kernel) (by decide +kernel)
set_option maxRecDepth 20000 in
theorem gX6_disconnects_X6_isLine : GoodIn wsX6_disconnects (wsV RX6 78 RX6 yX6_isLine wsX6_isLine) := goodIn_app (goodIn_of _ (by decide +kernel)) ggX6_disconnects_X6_isLine
set_option maxRecDepth 20000 in
theorem ggX6_disconnects_X6_of : GoodIn wsX6_disconnects wsX6_of := goodIn_r _ [17, 1, 22, 23, 24, 25, 26, 27, 28, 29, 30, 31, 32, 33] (by decide +kernel) (by decide +kernel)
set_option maxRecDepth 20000 in
theorem gX6_disconnects_X6_of : GoodIn wsX6_disconnects (wsV RX6 41 RX6 yX6_of wsX6_of) := goodIn_app (goodIn_of _ (by decide +kernel)) ggX6_disconnects_X6_of
set_option maxRecDepth 20000 in
theorem ggX6_disconnects_X6_lay : GoodIn wsX6_disconnects wsX6_lay := goodIn_r _ [21, 1, 22, 23, 24, 25, 26, 27, 28, 29, 30, 31, 32, 33] (by decide +kernel) (by decide +kernel)
set_option maxRecDepth 20000 in
theorem gX6_disconnects_X6_lay : GoodIn wsX6_disconnects (wsV RX6 38 RX6 yX6_lay wsX6_lay) := goodIn_app (goodIn_of _ (by decide +kernel)) ggX6_disconnects_X6_lay
theorem dX6_disconnects_0 : decode cX6_disconnects 0 = .ok (.aload_n 0, 1) := by decide +kernel
theorem dX6_disconnects_1 : decode cX6_disconnects 1 = .ok (.iload_n 1, 1) := by decide +kernel
theorem dX6_disconnects_2 : decode cX6_disconnects 2 = .ok (.iload_n 2, 1) := by decide +kernel
theorem dX6_disconnects_3 : decode cX6_disconnects 3 = .ok (.invokevirtual 78, 3) := by decide +kernel
theorem dX6_disconnects_6 : decode cX6_disconnects 6 = .ok (.ifCond .ne 5, 3) := by decide +kernel
theorem dX6_disconnects_9 : decode cX6_disconnects 9 = .ok (.iconst (-1), 1) := by decide +kernel
theorem dX6_disconnects_10 : decode cX6_disconnects 10 = .ok (.ireturn, 1) := by decide +kernel
theorem dX6_disconnects_11 : decode cX6_disconnects 11 = .ok (.aload_n 0, 1) := by decide +kernel
theorem dX6_disconnects_12 : decode cX6_disconnects 12 = .ok (.iload_n 1, 1) := by decide +kernel
theorem dX6_disconnects_13 : decode cX6_disconnects 13 = .ok (.iload_n 2, 1) := by decide +kernel
theorem dX6_disconnects_14 : decode cX6_disconnects 14 = .ok (.iconst 0, 1) := by decide +kernel
theorem dX6_disconnects_15 : decode cX6_disconnects 15 = .ok (.invokevirtual 41, 3) := by decide +kernel
theorem dX6_disconnects_18 : decode cX6_disconnects 18 = .ok (.istore_n 3, 1) := by decide +kernel
theorem dX6_disconnects_19 : decode cX6_disconnects 19 = .ok (.iload_n 3, 1) := by decide +kernel
theorem dX6_disconnects_20 : decode cX6_disconnects 20 = .ok (.iconst (-1), 1) := by decide +kernel
theorem dX6_disconnects_21 : decode cX6_disconnects 21 = .ok (.if_icmp .ne 6, 3) := by decide +kernel
theorem dX6_disconnects_24 : decode cX6_disconnects 24 = .ok (.bipush (-3), 2) := by decide +kernel
theorem dX6_disconnects_26 : decode cX6_disconnects 26 = .ok (.ireturn, 1) := by decide +kernel
theorem dX6_disconnects_27 : decode cX6_disconnects 27 = .ok (.aload_n 0, 1) := by decide +kernel
theorem dX6_disconnects_28 : decode cX6_disconnects 28 = .ok (.iload_n 1, 1) := by decide +kernel
theorem dX6_disconnects_29 : decode cX6_disconnects 29 = .ok (.iload_n 2, 1) := by decide +kernel
theorem dX6_disconnects_30 : decode cX6_disconnects 30 = .ok (.iconst 0, 1) := by decide +kernel
theorem dX6_disconnects_31 : decode cX6_disconnects 31 = .ok (.iconst (-1), 1) := by decide +kernel
theorem dX6_disconnects_32 : decode cX6_disconnects 32 = .ok (.invokevirtual 38, 3) := by decide +kernel
theorem dX6_disconnects_35 : decode cX6_disconnects 35 = .ok (.aload_n 0, 1) := by decide +kernel
theorem dX6_disconnects_36 : decode cX6_disconnects 36 = .ok (.getfield 7, 3) := by decide +kernel
theorem dX6_disconnects_39 : decode cX6_disconnects 39 = .ok (.iload_n 1, 1) := by decide +kernel
theorem dX6_disconnects_40 : decode cX6_disconnects 40 = .ok (.bipush 6, 2) := by decide +kernel
theorem dX6_disconnects_42 : decode cX6_disconnects 42 = .ok (.iadd, 1) := by decide +kernel
theorem dX6_disconnects_43 : decode cX6_disconnects 43 = .ok (.dup2, 1) := by decide +kernel
theorem dX6_disconnects_44 : decode cX6_disconnects 44 = .ok (.iaload, 1) := by decide +kernel
theorem dX6_disconnects_45 : decode cX6_disconnects 45 = .ok (.iconst 1, 1) := by decide +kernel
theorem dX6_disconnects_46 : decode cX6_disconnects 46 = .ok (.iadd, 1) := by decide +kernel
theorem dX6_disconnects_47 : decode cX6_disconnects 47 = .ok (.iastore, 1) := by decide +kernel
theorem dX6_disconnects_48 : decode cX6_disconnects 48 = .ok (.iload_n 3, 1) := by decide +kernel
theorem dX6_disconnects_49 : decode cX6_disconnects 49 = .ok (.ireturn, 1) := by decide +kernel
set_option maxRecDepth 20000 in
theorem ggX6_takesOut_X6_isMiddle : GoodIn wsX6_takesOut wsX6_isMiddle := goodIn_r _ [6, 1, 7, 8, 5, 9, 70, 71, 72, 73, 74, 75, 76, 77, 78, 79, 80, 81] (by decide +kernel) (by decide +kernel)
set_option maxRecDepth 20000 in
theorem gX6_takesOut_X6_isMiddle : GoodIn wsX6_takesOut (wsV RX6 87 RX6 yX6_isMiddle wsX6_isMiddle) := goodIn_app (goodIn_of _ (by decide +kernel)) ggX6_takesOut_X6_isMiddle
set_option maxRecDepth 20000 in
theorem ggX6_takesOut_X6_has : GoodIn wsX6_takesOut wsX6_has := goodIn_r _ [12] (by decide +kernel) (by decide +kernel)
set_option maxRecDepth 20000 in
theorem gX6_takesOut_X6_has : GoodIn wsX6_takesOut (va_wsS RX6 26 yX6_has wsX6_has) := goodIn_app (goodIn_of _ (by decide +kernel)) ggX6_takesOut_X6_has
set_option maxRecDepth 20000 in
theorem ggX6_takesOut_X6_lines : GoodIn wsX6_takesOut wsX6_lines := goodIn_r _ [16, 1, 70, 71, 72, 73, 74, 75, 76, 77, 78, 79, 80, 81] (by decide +kernel) (by decide +kernel)
set_option maxRecDepth 20000 in
theorem gX6_takesOut_X6_lines : GoodIn wsX6_takesOut (wsV RX6 30 RX6 yX6_lines wsX6_lines) := goodIn_app (goodIn_of _ (by decide +kernel)) ggX6_takesOut_X6_lines
set_option maxRecDepth 20000 in
theorem ggX6_takesOut_X6_of : GoodIn wsX6_takesOut wsX6_of := goodIn_r _ [20, 1, 70, 71, 72, 73, 74, 75, 76, 77, 78, 79, 80, 81] (by decide +kernel) (by decide +kernel)
set_option maxRecDepth 20000 in
theorem gX6_takesOut_X6_of : GoodIn wsX6_takesOut (wsV RX6 41 RX6 yX6_of wsX6_of) := goodIn_app (goodIn_of _ (by decide +kernel)) ggX6_takesOut_X6_of
set_option maxRecDepth 20000 in
theorem ggX6_takesOut_X6_lay : GoodIn wsX6_takesOut wsX6_lay := goodIn_r _ [24, 1, 70, 71, 72, 73, 74, 75, 76, 77, 78, 79, 80, 81] (by decide +kernel) (by decide +kernel)
set_option maxRecDepth 20000 in
theorem gX6_takesOut_X6_lay : GoodIn wsX6_takesOut (wsV RX6 38 RX6 yX6_lay wsX6_lay) := goodIn_app (goodIn_of _ (by decide +kernel)) ggX6_takesOut_X6_lay
set_option maxRecDepth 20000 in
theorem ggX6_takesOut_X6_nextOff : GoodIn wsX6_takesOut wsX6_nextOff := goodIn_r _ [28, 13, 14, 15, 5, 16, 1, 17, 18, 19, 20, 70, 71, 72, 73, 74, 75, 76, 77, 78, 79, 80, 81] (by decide +kernel) (by decide +kernel)
set_option maxRecDepth 20000 in
theorem gX6_takesOut_X6_nextOff : GoodIn wsX6_takesOut (wsV RX6 90 RX6 yX6_nextOff wsX6_nextOff) := goodIn_app (goodIn_of _ (by decide +kernel)) ggX6_takesOut_X6_nextOff
set_option maxRecDepth 20000 in
theorem ggX6_takesOut_X6_routes : GoodIn wsX6_takesOut wsX6_routes := goodIn_r _ [32, 1, 33, 34, 17, 18, 19, 5, 20, 35, 36, 37, 38, 10, 11, 12, 39, 40, 41, 42, 13, 14, 15, 16, 43, 44, 45, 46, 47, 48, 49, 50, 51, 52, 53, 54, 55, 56, 57, 58, 59, 60, 61, 21, 22, 23, 24, 62, 63, 64, 65, 66, 67, 68, 69, 70, 71, 72, 73, 74, 75, 76, 77, 78, 79, 80, 81] (by decide +kernel) (by decide +kernel)
set_option maxRecDepth 20000 in
theorem gX6_takesOut_X6_routes : GoodIn wsX6_takesOut (wsV RX6 84 RX6 yX6_routes wsX6_routes) := goodIn_app (goodIn_of _ (by decide +kernel)) ggX6_takesOut_X6_routes
theorem dX6_takesOut_0 : decode cX6_takesOut 0 = .ok (.aload_n 0, 1) := by decide +kernel
theorem dX6_takesOut_1 : decode cX6_takesOut 1 = .ok (.iload_n 1, 1) := by decide +kernel
theorem dX6_takesOut_2 : decode cX6_takesOut 2 = .ok (.iload_n 2, 1) := by decide +kernel
theorem dX6_takesOut_3 : decode cX6_takesOut 3 = .ok (.invokevirtual 87, 3) := by decide +kernel
theorem dX6_takesOut_6 : decode cX6_takesOut 6 = .ok (.ifCond .ne 5, 3) := by decide +kernel
theorem dX6_takesOut_9 : decode cX6_takesOut 9 = .ok (.iconst (-1), 1) := by decide +kernel
theorem dX6_takesOut_10 : decode cX6_takesOut 10 = .ok (.ireturn, 1) := by decide +kernel
theorem dX6_takesOut_11 : decode cX6_takesOut 11 = .ok (.aload_n 0, 1) := by decide +kernel
theorem dX6_takesOut_12 : decode cX6_takesOut 12 = .ok (.getfield 7, 3) := by decide +kernel
theorem dX6_takesOut_15 : decode cX6_takesOut 15 = .ok (.iload_n 1, 1) := by decide +kernel
theorem dX6_takesOut_16 : decode cX6_takesOut 16 = .ok (.bipush 9, 2) := by decide +kernel
theorem dX6_takesOut_18 : decode cX6_takesOut 18 = .ok (.iadd, 1) := by decide +kernel
theorem dX6_takesOut_19 : decode cX6_takesOut 19 = .ok (.iaload, 1) := by decide +kernel
theorem dX6_takesOut_20 : decode cX6_takesOut 20 = .ok (.iload_n 2, 1) := by decide +kernel
theorem dX6_takesOut_21 : decode cX6_takesOut 21 = .ok (.invokestatic 26, 3) := by decide +kernel
theorem dX6_takesOut_24 : decode cX6_takesOut 24 = .ok (.ifCond .ne 6, 3) := by decide +kernel
theorem dX6_takesOut_27 : decode cX6_takesOut 27 = .ok (.bipush (-6), 2) := by decide +kernel
theorem dX6_takesOut_29 : decode cX6_takesOut 29 = .ok (.ireturn, 1) := by decide +kernel
theorem dX6_takesOut_30 : decode cX6_takesOut 30 = .ok (.aload_n 0, 1) := by decide +kernel
theorem dX6_takesOut_31 : decode cX6_takesOut 31 = .ok (.getfield 7, 3) := by decide +kernel
theorem dX6_takesOut_34 : decode cX6_takesOut 34 = .ok (.iload_n 1, 1) := by decide +kernel
theorem dX6_takesOut_35 : decode cX6_takesOut 35 = .ok (.bipush 9, 2) := by decide +kernel
theorem dX6_takesOut_37 : decode cX6_takesOut 37 = .ok (.iadd, 1) := by decide +kernel
theorem dX6_takesOut_38 : decode cX6_takesOut 38 = .ok (.dup2, 1) := by decide +kernel
theorem dX6_takesOut_39 : decode cX6_takesOut 39 = .ok (.iaload, 1) := by decide +kernel
theorem dX6_takesOut_40 : decode cX6_takesOut 40 = .ok (.iconst 1, 1) := by decide +kernel
theorem dX6_takesOut_41 : decode cX6_takesOut 41 = .ok (.iload_n 2, 1) := by decide +kernel
theorem dX6_takesOut_42 : decode cX6_takesOut 42 = .ok (.ishl, 1) := by decide +kernel
theorem dX6_takesOut_43 : decode cX6_takesOut 43 = .ok (.isub, 1) := by decide +kernel
theorem dX6_takesOut_44 : decode cX6_takesOut 44 = .ok (.iastore, 1) := by decide +kernel
theorem dX6_takesOut_45 : decode cX6_takesOut 45 = .ok (.iconst 0, 1) := by decide +kernel
theorem dX6_takesOut_46 : decode cX6_takesOut 46 = .ok (.istore_n 3, 1) := by decide +kernel
theorem dX6_takesOut_47 : decode cX6_takesOut 47 = .ok (.iload_n 3, 1) := by decide +kernel
theorem dX6_takesOut_48 : decode cX6_takesOut 48 = .ok (.aload_n 0, 1) := by decide +kernel
theorem dX6_takesOut_49 : decode cX6_takesOut 49 = .ok (.iload_n 1, 1) := by decide +kernel
theorem dX6_takesOut_50 : decode cX6_takesOut 50 = .ok (.invokevirtual 30, 3) := by decide +kernel
theorem dX6_takesOut_53 : decode cX6_takesOut 53 = .ok (.if_icmp .ge 38, 3) := by decide +kernel
theorem dX6_takesOut_56 : decode cX6_takesOut 56 = .ok (.aload_n 0, 1) := by decide +kernel
theorem dX6_takesOut_57 : decode cX6_takesOut 57 = .ok (.iload_n 1, 1) := by decide +kernel
theorem dX6_takesOut_58 : decode cX6_takesOut 58 = .ok (.iload_n 3, 1) := by decide +kernel
theorem dX6_takesOut_59 : decode cX6_takesOut 59 = .ok (.iconst 2, 1) := by decide +kernel
theorem dX6_takesOut_60 : decode cX6_takesOut 60 = .ok (.aload_n 0, 1) := by decide +kernel
theorem dX6_takesOut_61 : decode cX6_takesOut 61 = .ok (.iload_n 1, 1) := by decide +kernel
theorem dX6_takesOut_62 : decode cX6_takesOut 62 = .ok (.iload_n 3, 1) := by decide +kernel
theorem dX6_takesOut_63 : decode cX6_takesOut 63 = .ok (.iconst 2, 1) := by decide +kernel
theorem dX6_takesOut_64 : decode cX6_takesOut 64 = .ok (.invokevirtual 41, 3) := by decide +kernel
theorem dX6_takesOut_67 : decode cX6_takesOut 67 = .ok (.iload_n 2, 1) := by decide +kernel
theorem dX6_takesOut_68 : decode cX6_takesOut 68 = .ok (.if_icmp .ne 7, 3) := by decide +kernel
theorem dX6_takesOut_71 : decode cX6_takesOut 71 = .ok (.iconst (-1), 1) := by decide +kernel
theorem dX6_takesOut_72 : decode cX6_takesOut 72 = .ok (.goto 10, 3) := by decide +kernel
theorem dX6_takesOut_75 : decode cX6_takesOut 75 = .ok (.aload_n 0, 1) := by decide +kernel
theorem dX6_takesOut_76 : decode cX6_takesOut 76 = .ok (.iload_n 1, 1) := by decide +kernel
theorem dX6_takesOut_77 : decode cX6_takesOut 77 = .ok (.iload_n 3, 1) := by decide +kernel
theorem dX6_takesOut_78 : decode cX6_takesOut 78 = .ok (.iconst 2, 1) := by decide +kernel
theorem dX6_takesOut_79 : decode cX6_takesOut 79 = .ok (.invokevirtual 41, 3) := by decide +kernel
theorem dX6_takesOut_82 : decode cX6_takesOut 82 = .ok (.invokevirtual 38, 3) := by decide +kernel
theorem dX6_takesOut_85 : decode cX6_takesOut 85 = .ok (.iinc 3 1, 3) := by decide +kernel
theorem dX6_takesOut_88 : decode cX6_takesOut 88 = .ok (.goto (-41), 3) := by decide +kernel
theorem dX6_takesOut_91 : decode cX6_takesOut 91 = .ok (.iconst 0, 1) := by decide +kernel
theorem dX6_takesOut_92 : decode cX6_takesOut 92 = .ok (.istore_n 3, 1) := by decide +kernel
theorem dX6_takesOut_93 : decode cX6_takesOut 93 = .ok (.aload_n 0, 1) := by decide +kernel
theorem dX6_takesOut_94 : decode cX6_takesOut 94 = .ok (.iload_n 1, 1) := by decide +kernel
theorem dX6_takesOut_95 : decode cX6_takesOut 95 = .ok (.invokevirtual 90, 3) := by decide +kernel
theorem dX6_takesOut_98 : decode cX6_takesOut 98 = .ok (.istore 4, 2) := by decide +kernel
theorem dX6_takesOut_100 : decode cX6_takesOut 100 = .ok (.iload 4, 2) := by decide +kernel
theorem dX6_takesOut_102 : decode cX6_takesOut 102 = .ok (.iconst (-1), 1) := by decide +kernel
theorem dX6_takesOut_103 : decode cX6_takesOut 103 = .ok (.if_icmp .eq 53, 3) := by decide +kernel
theorem dX6_takesOut_106 : decode cX6_takesOut 106 = .ok (.aload_n 0, 1) := by decide +kernel
theorem dX6_takesOut_107 : decode cX6_takesOut 107 = .ok (.iload_n 1, 1) := by decide +kernel
theorem dX6_takesOut_108 : decode cX6_takesOut 108 = .ok (.iload 4, 2) := by decide +kernel
theorem dX6_takesOut_110 : decode cX6_takesOut 110 = .ok (.invokevirtual 84, 3) := by decide +kernel
theorem dX6_takesOut_113 : decode cX6_takesOut 113 = .ok (.bipush (-4), 2) := by decide +kernel
theorem dX6_takesOut_115 : decode cX6_takesOut 115 = .ok (.if_icmp .ne 18, 3) := by decide +kernel
theorem dX6_takesOut_118 : decode cX6_takesOut 118 = .ok (.aload_n 0, 1) := by decide +kernel
theorem dX6_takesOut_119 : decode cX6_takesOut 119 = .ok (.iload_n 1, 1) := by decide +kernel
theorem dX6_takesOut_120 : decode cX6_takesOut 120 = .ok (.iload 4, 2) := by decide +kernel
theorem dX6_takesOut_122 : decode cX6_takesOut 122 = .ok (.iconst 0, 1) := by decide +kernel
theorem dX6_takesOut_123 : decode cX6_takesOut 123 = .ok (.iconst (-1), 1) := by decide +kernel
theorem dX6_takesOut_124 : decode cX6_takesOut 124 = .ok (.invokevirtual 38, 3) := by decide +kernel
theorem dX6_takesOut_127 : decode cX6_takesOut 127 = .ok (.iinc 3 1, 3) := by decide +kernel
theorem dX6_takesOut_130 : decode cX6_takesOut 130 = .ok (.goto 16, 3) := by decide +kernel
theorem dX6_takesOut_133 : decode cX6_takesOut 133 = .ok (.aload_n 0, 1) := by decide +kernel
theorem dX6_takesOut_134 : decode cX6_takesOut 134 = .ok (.getfield 7, 3) := by decide +kernel
theorem dX6_takesOut_137 : decode cX6_takesOut 137 = .ok (.iload_n 1, 1) := by decide +kernel
theorem dX6_takesOut_138 : decode cX6_takesOut 138 = .ok (.bipush 8, 2) := by decide +kernel
theorem dX6_takesOut_140 : decode cX6_takesOut 140 = .ok (.iadd, 1) := by decide +kernel
theorem dX6_takesOut_141 : decode cX6_takesOut 141 = .ok (.dup2, 1) := by decide +kernel
theorem dX6_takesOut_142 : decode cX6_takesOut 142 = .ok (.iaload, 1) := by decide +kernel
theorem dX6_takesOut_143 : decode cX6_takesOut 143 = .ok (.iconst 1, 1) := by decide +kernel
theorem dX6_takesOut_144 : decode cX6_takesOut 144 = .ok (.iadd, 1) := by decide +kernel
theorem dX6_takesOut_145 : decode cX6_takesOut 145 = .ok (.iastore, 1) := by decide +kernel
theorem dX6_takesOut_146 : decode cX6_takesOut 146 = .ok (.aload_n 0, 1) := by decide +kernel
theorem dX6_takesOut_147 : decode cX6_takesOut 147 = .ok (.iload_n 1, 1) := by decide +kernel
theorem dX6_takesOut_148 : decode cX6_takesOut 148 = .ok (.invokevirtual 90, 3) := by decide +kernel
theorem dX6_takesOut_151 : decode cX6_takesOut 151 = .ok (.istore 4, 2) := by decide +kernel
theorem dX6_takesOut_153 : decode cX6_takesOut 153 = .ok (.goto (-53), 3) := by decide +kernel
theorem dX6_takesOut_156 : decode cX6_takesOut 156 = .ok (.aload_n 0, 1) := by decide +kernel
theorem dX6_takesOut_157 : decode cX6_takesOut 157 = .ok (.getfield 7, 3) := by decide +kernel
theorem dX6_takesOut_160 : decode cX6_takesOut 160 = .ok (.iload_n 1, 1) := by decide +kernel
theorem dX6_takesOut_161 : decode cX6_takesOut 161 = .ok (.bipush 7, 2) := by decide +kernel
theorem dX6_takesOut_163 : decode cX6_takesOut 163 = .ok (.iadd, 1) := by decide +kernel
theorem dX6_takesOut_164 : decode cX6_takesOut 164 = .ok (.dup2, 1) := by decide +kernel
theorem dX6_takesOut_165 : decode cX6_takesOut 165 = .ok (.iaload, 1) := by decide +kernel
theorem dX6_takesOut_166 : decode cX6_takesOut 166 = .ok (.iload_n 3, 1) := by decide +kernel
theorem dX6_takesOut_167 : decode cX6_takesOut 167 = .ok (.iadd, 1) := by decide +kernel
theorem dX6_takesOut_168 : decode cX6_takesOut 168 = .ok (.iastore, 1) := by decide +kernel
theorem dX6_takesOut_169 : decode cX6_takesOut 169 = .ok (.iload_n 3, 1) := by decide +kernel
theorem dX6_takesOut_170 : decode cX6_takesOut 170 = .ok (.ireturn, 1) := by decide +kernel
set_option maxRecDepth 20000 in
theorem ggX6_putsBack_X6_isMiddle : GoodIn wsX6_putsBack wsX6_isMiddle := goodIn_r _ [6, 1, 7, 8, 5, 9, 16, 17, 18, 19, 20, 21, 22, 23, 24, 25, 26, 27] (by decide +kernel) (by decide +kernel)
set_option maxRecDepth 20000 in
theorem gX6_putsBack_X6_isMiddle : GoodIn wsX6_putsBack (wsV RX6 87 RX6 yX6_isMiddle wsX6_isMiddle) := goodIn_app (goodIn_of _ (by decide +kernel)) ggX6_putsBack_X6_isMiddle
set_option maxRecDepth 20000 in
theorem ggX6_putsBack_X6_has : GoodIn wsX6_putsBack wsX6_has := goodIn_r _ [12] (by decide +kernel) (by decide +kernel)
set_option maxRecDepth 20000 in
theorem gX6_putsBack_X6_has : GoodIn wsX6_putsBack (va_wsS RX6 26 yX6_has wsX6_has) := goodIn_app (goodIn_of _ (by decide +kernel)) ggX6_putsBack_X6_has
set_option maxRecDepth 20000 in
theorem ggX6_putsBack_X6_bits : GoodIn wsX6_putsBack wsX6_bits := goodIn_r _ [15] (by decide +kernel) (by decide +kernel)
set_option maxRecDepth 20000 in
theorem gX6_putsBack_X6_bits : GoodIn wsX6_putsBack (va_wsS RX6 93 yX6_bits wsX6_bits) := goodIn_app (goodIn_of _ (by decide +kernel)) ggX6_putsBack_X6_bits
theorem dX6_putsBack_0 : decode cX6_putsBack 0 = .ok (.aload_n 0, 1) := by decide +kernel
theorem dX6_putsBack_1 : decode cX6_putsBack 1 = .ok (.iload_n 1, 1) := by decide +kernel
theorem dX6_putsBack_2 : decode cX6_putsBack 2 = .ok (.iload_n 2, 1) := by decide +kernel
theorem dX6_putsBack_3 : decode cX6_putsBack 3 = .ok (.invokevirtual 87, 3) := by decide +kernel
theorem dX6_putsBack_6 : decode cX6_putsBack 6 = .ok (.ifCond .ne 5, 3) := by decide +kernel
theorem dX6_putsBack_9 : decode cX6_putsBack 9 = .ok (.iconst (-1), 1) := by decide +kernel
theorem dX6_putsBack_10 : decode cX6_putsBack 10 = .ok (.ireturn, 1) := by decide +kernel
theorem dX6_putsBack_11 : decode cX6_putsBack 11 = .ok (.aload_n 0, 1) := by decide +kernel
theorem dX6_putsBack_12 : decode cX6_putsBack 12 = .ok (.getfield 7, 3) := by decide +kernel
theorem dX6_putsBack_15 : decode cX6_putsBack 15 = .ok (.iload_n 1, 1) := by decide +kernel
theorem dX6_putsBack_16 : decode cX6_putsBack 16 = .ok (.bipush 9, 2) := by decide +kernel
theorem dX6_putsBack_18 : decode cX6_putsBack 18 = .ok (.iadd, 1) := by decide +kernel
theorem dX6_putsBack_19 : decode cX6_putsBack 19 = .ok (.iaload, 1) := by decide +kernel
theorem dX6_putsBack_20 : decode cX6_putsBack 20 = .ok (.iload_n 2, 1) := by decide +kernel
theorem dX6_putsBack_21 : decode cX6_putsBack 21 = .ok (.invokestatic 26, 3) := by decide +kernel
theorem dX6_putsBack_24 : decode cX6_putsBack 24 = .ok (.ifCond .eq 6, 3) := by decide +kernel
theorem dX6_putsBack_27 : decode cX6_putsBack 27 = .ok (.bipush (-6), 2) := by decide +kernel
theorem dX6_putsBack_29 : decode cX6_putsBack 29 = .ok (.ireturn, 1) := by decide +kernel
theorem dX6_putsBack_30 : decode cX6_putsBack 30 = .ok (.aload_n 0, 1) := by decide +kernel
theorem dX6_putsBack_31 : decode cX6_putsBack 31 = .ok (.getfield 7, 3) := by decide +kernel
theorem dX6_putsBack_34 : decode cX6_putsBack 34 = .ok (.iload_n 1, 1) := by decide +kernel
theorem dX6_putsBack_35 : decode cX6_putsBack 35 = .ok (.bipush 9, 2) := by decide +kernel
theorem dX6_putsBack_37 : decode cX6_putsBack 37 = .ok (.iadd, 1) := by decide +kernel
theorem dX6_putsBack_38 : decode cX6_putsBack 38 = .ok (.dup2, 1) := by decide +kernel
theorem dX6_putsBack_39 : decode cX6_putsBack 39 = .ok (.iaload, 1) := by decide +kernel
theorem dX6_putsBack_40 : decode cX6_putsBack 40 = .ok (.iconst 1, 1) := by decide +kernel
theorem dX6_putsBack_41 : decode cX6_putsBack 41 = .ok (.iload_n 2, 1) := by decide +kernel
theorem dX6_putsBack_42 : decode cX6_putsBack 42 = .ok (.ishl, 1) := by decide +kernel
theorem dX6_putsBack_43 : decode cX6_putsBack 43 = .ok (.iadd, 1) := by decide +kernel
theorem dX6_putsBack_44 : decode cX6_putsBack 44 = .ok (.iastore, 1) := by decide +kernel
theorem dX6_putsBack_45 : decode cX6_putsBack 45 = .ok (.aload_n 0, 1) := by decide +kernel
theorem dX6_putsBack_46 : decode cX6_putsBack 46 = .ok (.getfield 7, 3) := by decide +kernel
theorem dX6_putsBack_49 : decode cX6_putsBack 49 = .ok (.iload_n 1, 1) := by decide +kernel
theorem dX6_putsBack_50 : decode cX6_putsBack 50 = .ok (.bipush 9, 2) := by decide +kernel
theorem dX6_putsBack_52 : decode cX6_putsBack 52 = .ok (.iadd, 1) := by decide +kernel
theorem dX6_putsBack_53 : decode cX6_putsBack 53 = .ok (.iaload, 1) := by decide +kernel
theorem dX6_putsBack_54 : decode cX6_putsBack 54 = .ok (.invokestatic 93, 3) := by decide +kernel
theorem dX6_putsBack_57 : decode cX6_putsBack 57 = .ok (.ireturn, 1) := by decide +kernel
set_option maxRecDepth 20000 in
theorem ggX6_least_X6_lines : GoodIn wsX6_least wsX6_lines := goodIn_r _ [6, 1, 11, 12, 13, 14, 15, 16, 17, 18, 19, 20, 21, 22] (by decide +kernel) (by decide +kernel)
set_option maxRecDepth 20000 in
theorem gX6_least_X6_lines : GoodIn wsX6_least (wsV RX6 30 RX6 yX6_lines wsX6_lines) := goodIn_app (goodIn_of _ (by decide +kernel)) ggX6_least_X6_lines
set_option maxRecDepth 20000 in
theorem ggX6_least_X6_of : GoodIn wsX6_least wsX6_of := goodIn_r _ [10, 1, 11, 12, 13, 14, 15, 16, 17, 18, 19, 20, 21, 22] (by decide +kernel) (by decide +kernel)
set_option maxRecDepth 20000 in
theorem gX6_least_X6_of : GoodIn wsX6_least (wsV RX6 41 RX6 yX6_of wsX6_of) := goodIn_app (goodIn_of _ (by decide +kernel)) ggX6_least_X6_of
theorem dX6_least_0 : decode cX6_least 0 = .ok (.iconst 0, 1) := by decide +kernel
theorem dX6_least_1 : decode cX6_least 1 = .ok (.istore_n 2, 1) := by decide +kernel
theorem dX6_least_2 : decode cX6_least 2 = .ok (.iconst 0, 1) := by decide +kernel
theorem dX6_least_3 : decode cX6_least 3 = .ok (.istore_n 3, 1) := by decide +kernel
theorem dX6_least_4 : decode cX6_least 4 = .ok (.iload_n 3, 1) := by decide +kernel
theorem dX6_least_5 : decode cX6_least 5 = .ok (.aload_n 0, 1) := by decide +kernel
theorem dX6_least_6 : decode cX6_least 6 = .ok (.getfield 7, 3) := by decide +kernel
theorem dX6_least_9 : decode cX6_least 9 = .ok (.iload_n 1, 1) := by decide +kernel
theorem dX6_least_10 : decode cX6_least 10 = .ok (.iconst 0, 1) := by decide +kernel
theorem dX6_least_11 : decode cX6_least 11 = .ok (.iadd, 1) := by decide +kernel
theorem dX6_least_12 : decode cX6_least 12 = .ok (.iaload, 1) := by decide +kernel
theorem dX6_least_13 : decode cX6_least 13 = .ok (.if_icmp .ge 145, 3) := by decide +kernel
theorem dX6_least_16 : decode cX6_least 16 = .ok (.iconst 0, 1) := by decide +kernel
theorem dX6_least_17 : decode cX6_least 17 = .ok (.istore 4, 2) := by decide +kernel
theorem dX6_least_19 : decode cX6_least 19 = .ok (.iconst 0, 1) := by decide +kernel
theorem dX6_least_20 : decode cX6_least 20 = .ok (.istore 5, 2) := by decide +kernel
theorem dX6_least_22 : decode cX6_least 22 = .ok (.iconst 0, 1) := by decide +kernel
theorem dX6_least_23 : decode cX6_least 23 = .ok (.istore 6, 2) := by decide +kernel
theorem dX6_least_25 : decode cX6_least 25 = .ok (.iload 6, 2) := by decide +kernel
theorem dX6_least_27 : decode cX6_least 27 = .ok (.aload_n 0, 1) := by decide +kernel
theorem dX6_least_28 : decode cX6_least 28 = .ok (.iload_n 1, 1) := by decide +kernel
theorem dX6_least_29 : decode cX6_least 29 = .ok (.invokevirtual 30, 3) := by decide +kernel
theorem dX6_least_32 : decode cX6_least 32 = .ok (.if_icmp .ge 94, 3) := by decide +kernel
theorem dX6_least_35 : decode cX6_least 35 = .ok (.aload_n 0, 1) := by decide +kernel
theorem dX6_least_36 : decode cX6_least 36 = .ok (.iload_n 1, 1) := by decide +kernel
theorem dX6_least_37 : decode cX6_least 37 = .ok (.iload 6, 2) := by decide +kernel
theorem dX6_least_39 : decode cX6_least 39 = .ok (.iconst 0, 1) := by decide +kernel
theorem dX6_least_40 : decode cX6_least 40 = .ok (.invokevirtual 41, 3) := by decide +kernel
theorem dX6_least_43 : decode cX6_least 43 = .ok (.iconst (-1), 1) := by decide +kernel
theorem dX6_least_44 : decode cX6_least 44 = .ok (.if_icmp .eq 7, 3) := by decide +kernel
theorem dX6_least_47 : decode cX6_least 47 = .ok (.iconst 1, 1) := by decide +kernel
theorem dX6_least_48 : decode cX6_least 48 = .ok (.goto 4, 3) := by decide +kernel
theorem dX6_least_51 : decode cX6_least 51 = .ok (.iconst 0, 1) := by decide +kernel
theorem dX6_least_52 : decode cX6_least 52 = .ok (.istore 7, 2) := by decide +kernel
theorem dX6_least_54 : decode cX6_least 54 = .ok (.iload 4, 2) := by decide +kernel
theorem dX6_least_56 : decode cX6_least 56 = .ok (.iload 7, 2) := by decide +kernel
theorem dX6_least_58 : decode cX6_least 58 = .ok (.ifCond .eq 22, 3) := by decide +kernel
theorem dX6_least_61 : decode cX6_least 61 = .ok (.iload 6, 2) := by decide +kernel
theorem dX6_least_63 : decode cX6_least 63 = .ok (.aload_n 0, 1) := by decide +kernel
theorem dX6_least_64 : decode cX6_least 64 = .ok (.getfield 7, 3) := by decide +kernel
theorem dX6_least_67 : decode cX6_least 67 = .ok (.iload_n 1, 1) := by decide +kernel
theorem dX6_least_68 : decode cX6_least 68 = .ok (.iconst 1, 1) := by decide +kernel
theorem dX6_least_69 : decode cX6_least 69 = .ok (.iadd, 1) := by decide +kernel
theorem dX6_least_70 : decode cX6_least 70 = .ok (.iaload, 1) := by decide +kernel
theorem dX6_least_71 : decode cX6_least 71 = .ok (.idiv, 1) := by decide +kernel
theorem dX6_least_72 : decode cX6_least 72 = .ok (.iload_n 3, 1) := by decide +kernel
theorem dX6_least_73 : decode cX6_least 73 = .ok (.if_icmp .ne 7, 3) := by decide +kernel
theorem dX6_least_76 : decode cX6_least 76 = .ok (.iconst 1, 1) := by decide +kernel
theorem dX6_least_77 : decode cX6_least 77 = .ok (.goto 4, 3) := by decide +kernel
theorem dX6_least_80 : decode cX6_least 80 = .ok (.iconst 0, 1) := by decide +kernel
theorem dX6_least_81 : decode cX6_least 81 = .ok (.iadd, 1) := by decide +kernel
theorem dX6_least_82 : decode cX6_least 82 = .ok (.istore 4, 2) := by decide +kernel
theorem dX6_least_84 : decode cX6_least 84 = .ok (.iload 5, 2) := by decide +kernel
theorem dX6_least_86 : decode cX6_least 86 = .ok (.iload 7, 2) := by decide +kernel
theorem dX6_least_88 : decode cX6_least 88 = .ok (.ifCond .eq 28, 3) := by decide +kernel
theorem dX6_least_91 : decode cX6_least 91 = .ok (.aload_n 0, 1) := by decide +kernel
theorem dX6_least_92 : decode cX6_least 92 = .ok (.iload_n 1, 1) := by decide +kernel
theorem dX6_least_93 : decode cX6_least 93 = .ok (.iload 6, 2) := by decide +kernel
theorem dX6_least_95 : decode cX6_least 95 = .ok (.iconst 1, 1) := by decide +kernel
theorem dX6_least_96 : decode cX6_least 96 = .ok (.invokevirtual 41, 3) := by decide +kernel
theorem dX6_least_99 : decode cX6_least 99 = .ok (.aload_n 0, 1) := by decide +kernel
theorem dX6_least_100 : decode cX6_least 100 = .ok (.getfield 7, 3) := by decide +kernel
theorem dX6_least_103 : decode cX6_least 103 = .ok (.iload_n 1, 1) := by decide +kernel
theorem dX6_least_104 : decode cX6_least 104 = .ok (.iconst 1, 1) := by decide +kernel
theorem dX6_least_105 : decode cX6_least 105 = .ok (.iadd, 1) := by decide +kernel
theorem dX6_least_106 : decode cX6_least 106 = .ok (.iaload, 1) := by decide +kernel
theorem dX6_least_107 : decode cX6_least 107 = .ok (.idiv, 1) := by decide +kernel
theorem dX6_least_108 : decode cX6_least 108 = .ok (.iload_n 3, 1) := by decide +kernel
theorem dX6_least_109 : decode cX6_least 109 = .ok (.if_icmp .ne 7, 3) := by decide +kernel
theorem dX6_least_112 : decode cX6_least 112 = .ok (.iconst 1, 1) := by decide +kernel
theorem dX6_least_113 : decode cX6_least 113 = .ok (.goto 4, 3) := by decide +kernel
theorem dX6_least_116 : decode cX6_least 116 = .ok (.iconst 0, 1) := by decide +kernel
theorem dX6_least_117 : decode cX6_least 117 = .ok (.iadd, 1) := by decide +kernel
theorem dX6_least_118 : decode cX6_least 118 = .ok (.istore 5, 2) := by decide +kernel
theorem dX6_least_120 : decode cX6_least 120 = .ok (.iinc 6 1, 3) := by decide +kernel
theorem dX6_least_123 : decode cX6_least 123 = .ok (.goto (-98), 3) := by decide +kernel
theorem dX6_least_126 : decode cX6_least 126 = .ok (.iload 4, 2) := by decide +kernel
theorem dX6_least_128 : decode cX6_least 128 = .ok (.iload_n 2, 1) := by decide +kernel
theorem dX6_least_129 : decode cX6_least 129 = .ok (.if_icmp .le 8, 3) := by decide +kernel
theorem dX6_least_132 : decode cX6_least 132 = .ok (.iload 4, 2) := by decide +kernel
theorem dX6_least_134 : decode cX6_least 134 = .ok (.goto 4, 3) := by decide +kernel
theorem dX6_least_137 : decode cX6_least 137 = .ok (.iload_n 2, 1) := by decide +kernel
theorem dX6_least_138 : decode cX6_least 138 = .ok (.istore_n 2, 1) := by decide +kernel
theorem dX6_least_139 : decode cX6_least 139 = .ok (.iload 5, 2) := by decide +kernel
theorem dX6_least_141 : decode cX6_least 141 = .ok (.iload_n 2, 1) := by decide +kernel
theorem dX6_least_142 : decode cX6_least 142 = .ok (.if_icmp .le 8, 3) := by decide +kernel
theorem dX6_least_145 : decode cX6_least 145 = .ok (.iload 5, 2) := by decide +kernel
theorem dX6_least_147 : decode cX6_least 147 = .ok (.goto 4, 3) := by decide +kernel
theorem dX6_least_150 : decode cX6_least 150 = .ok (.iload_n 2, 1) := by decide +kernel
theorem dX6_least_151 : decode cX6_least 151 = .ok (.istore_n 2, 1) := by decide +kernel
theorem dX6_least_152 : decode cX6_least 152 = .ok (.iinc 3 1, 3) := by decide +kernel
theorem dX6_least_155 : decode cX6_least 155 = .ok (.goto (-151), 3) := by decide +kernel
theorem dX6_least_158 : decode cX6_least 158 = .ok (.iload_n 2, 1) := by decide +kernel
theorem dX6_least_159 : decode cX6_least 159 = .ok (.ireturn, 1) := by decide +kernel
set_option maxRecDepth 20000 in
theorem ggX6_packs_X6_calls : GoodIn wsX6_packs wsX6_calls := goodIn_r _ [7, 8, 9, 10, 6, 11, 1, 12, 13, 14, 15, 75, 76, 77, 78, 79, 80, 81, 82, 83, 84, 85, 86] (by decide +kernel) (by decide +kernel)
set_option maxRecDepth 20000 in
theorem gX6_packs_X6_calls : GoodIn wsX6_packs (wsV RX6 96 RX6 yX6_calls wsX6_calls) := goodIn_app (goodIn_of _ (by decide +kernel)) ggX6_packs_X6_calls
set_option maxRecDepth 20000 in
theorem ggX6_packs_X6_least : GoodIn wsX6_packs wsX6_least := goodIn_r _ [19, 1, 8, 9, 10, 6, 11, 12, 13, 14, 15, 75, 76, 77, 78, 79, 80, 81, 82, 83, 84, 85, 86] (by decide +kernel) (by decide +kernel)
set_option maxRecDepth 20000 in
theorem gX6_packs_X6_least : GoodIn wsX6_packs (wsV RX6 99 RX6 yX6_least wsX6_least) := goodIn_app (goodIn_of _ (by decide +kernel)) ggX6_packs_X6_least
set_option maxRecDepth 20000 in
theorem ggX6_packs_X6_has : GoodIn wsX6_packs wsX6_has := goodIn_r _ [22] (by decide +kernel) (by decide +kernel)
set_option maxRecDepth 20000 in
theorem gX6_packs_X6_has : GoodIn wsX6_packs (va_wsS RX6 26 yX6_has wsX6_has) := goodIn_app (goodIn_of _ (by decide +kernel)) ggX6_packs_X6_has
set_option maxRecDepth 20000 in
theorem ggX6_packs_X6_bits : GoodIn wsX6_packs wsX6_bits := goodIn_r _ [25] (by decide +kernel) (by decide +kernel)
set_option maxRecDepth 20000 in
theorem gX6_packs_X6_bits : GoodIn wsX6_packs (va_wsS RX6 93 yX6_bits wsX6_bits) := goodIn_app (goodIn_of _ (by decide +kernel)) ggX6_packs_X6_bits
set_option maxRecDepth 20000 in
theorem ggX6_packs_X6_lines : GoodIn wsX6_packs wsX6_lines := goodIn_r _ [11, 1, 75, 76, 77, 78, 79, 80, 81, 82, 83, 84, 85, 86] (by decide +kernel) (by decide +kernel)
set_option maxRecDepth 20000 in
theorem gX6_packs_X6_lines : GoodIn wsX6_packs (wsV RX6 30 RX6 yX6_lines wsX6_lines) := goodIn_app (goodIn_of _ (by decide +kernel)) ggX6_packs_X6_lines
set_option maxRecDepth 20000 in
theorem ggX6_packs_X6_of : GoodIn wsX6_packs wsX6_of := goodIn_r _ [15, 1, 75, 76, 77, 78, 79, 80, 81, 82, 83, 84, 85, 86] (by decide +kernel) (by decide +kernel)
set_option maxRecDepth 20000 in
theorem gX6_packs_X6_of : GoodIn wsX6_packs (wsV RX6 41 RX6 yX6_of wsX6_of) := goodIn_app (goodIn_of _ (by decide +kernel)) ggX6_packs_X6_of
set_option maxRecDepth 20000 in
theorem ggX6_packs_X6_lay : GoodIn wsX6_packs wsX6_lay := goodIn_r _ [29, 1, 75, 76, 77, 78, 79, 80, 81, 82, 83, 84, 85, 86] (by decide +kernel) (by decide +kernel)
set_option maxRecDepth 20000 in
theorem gX6_packs_X6_lay : GoodIn wsX6_packs (wsV RX6 38 RX6 yX6_lay wsX6_lay) := goodIn_app (goodIn_of _ (by decide +kernel)) ggX6_packs_X6_lay
set_option maxRecDepth 20000 in
theorem ggX6_packs_X6_nextOff : GoodIn wsX6_packs wsX6_nextOff := goodIn_r _ [33, 8, 9, 10, 6, 11, 1, 12, 13, 14, 15, 75, 76, 77, 78, 79, 80, 81, 82, 83, 84, 85, 86] (by decide +kernel) (by decide +kernel)
set_option maxRecDepth 20000 in
theorem gX6_packs_X6_nextOff : GoodIn wsX6_packs (wsV RX6 90 RX6 yX6_nextOff wsX6_nextOff) := goodIn_app (goodIn_of _ (by decide +kernel)) ggX6_packs_X6_nextOff
set_option maxRecDepth 20000 in
theorem ggX6_packs_X6_routes : GoodIn wsX6_packs wsX6_routes := goodIn_r _ [37, 1, 38, 39, 12, 13, 14, 6, 15, 40, 41, 42, 43, 20, 21, 22, 44, 45, 46, 47, 8, 9, 10, 11, 48, 49, 50, 51, 52, 53, 54, 55, 56, 57, 58, 59, 60, 61, 62, 63, 64, 65, 66, 26, 27, 28, 29, 67, 68, 69, 70, 71, 72, 73, 74, 75, 76, 77, 78, 79, 80, 81, 82, 83, 84, 85, 86] (by decide +kernel) (by decide +kernel)
set_option maxRecDepth 20000 in
theorem gX6_packs_X6_routes : GoodIn wsX6_packs (wsV RX6 84 RX6 yX6_routes wsX6_routes) := goodIn_app (goodIn_of _ (by decide +kernel)) ggX6_packs_X6_routes
theorem dX6_packs_0 : decode cX6_packs 0 = .ok (.aload_n 0, 1) := by decide +kernel
theorem dX6_packs_1 : decode cX6_packs 1 = .ok (.iload_n 1, 1) := by decide +kernel
theorem dX6_packs_2 : decode cX6_packs 2 = .ok (.invokevirtual 96, 3) := by decide +kernel
theorem dX6_packs_5 : decode cX6_packs 5 = .ok (.ifCond .ne 6, 3) := by decide +kernel
