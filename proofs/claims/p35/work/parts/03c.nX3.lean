set_option maxRecDepth 20000 in
theorem ggX3_init_X4_init : GoodIn wsX3_init wsX4_init := goodIn_r _ [11, 12, 2, 3, 13, 14, 15, 16, 17, 18, 19, 20, 21, 22, 23] (by decide +kernel) (by decide +kernel)
set_option maxRecDepth 20000 in
theorem gX3_init_X4_init : GoodIn wsX3_init (wsX4_init) := ggX3_init_X4_init
theorem dX3_init_0 : decode cX3_init 0 = .ok (.aload_n 0, 1) := by decide +kernel
theorem dX3_init_1 : decode cX3_init 1 = .ok (.invokespecial 3, 3) := by decide +kernel
theorem dX3_init_4 : decode cX3_init 4 = .ok (.aload_n 0, 1) := by decide +kernel
theorem dX3_init_5 : decode cX3_init 5 = .ok (.new 9, 3) := by decide +kernel
theorem dX3_init_8 : decode cX3_init 8 = .ok (.dup, 1) := by decide +kernel
theorem dX3_init_9 : decode cX3_init 9 = .ok (.bipush 16, 2) := by decide +kernel
theorem dX3_init_11 : decode cX3_init 11 = .ok (.invokespecial 11, 3) := by decide +kernel
theorem dX3_init_14 : decode cX3_init 14 = .ok (.putfield 14, 3) := by decide +kernel
theorem dX3_init_17 : decode cX3_init 17 = .ok (.aload_n 0, 1) := by decide +kernel
theorem dX3_init_18 : decode cX3_init 18 = .ok (.new 9, 3) := by decide +kernel
theorem dX3_init_21 : decode cX3_init 21 = .ok (.dup, 1) := by decide +kernel
theorem dX3_init_22 : decode cX3_init 22 = .ok (.bipush 48, 2) := by decide +kernel
theorem dX3_init_24 : decode cX3_init 24 = .ok (.invokespecial 11, 3) := by decide +kernel
theorem dX3_init_27 : decode cX3_init 27 = .ok (.putfield 20, 3) := by decide +kernel
theorem dX3_init_30 : decode cX3_init 30 = .ok (.return_, 1) := by decide +kernel
set_option maxRecDepth 20000 in
theorem ggX3_join_X3_tryCall : GoodIn wsX3_join wsX3_tryCall := goodIn_r _ [5, 6, 7, 8, 9, 10, 11, 12, 13, 14, 15, 16, 17, 18, 19, 20, 21, 22, 23, 24, 25, 26, 27, 28, 29, 30, 31, 4, 32, 33, 34, 35, 36, 37, 38, 39, 40, 41, 42, 43, 44, 45, 46, 47, 48, 49, 50, 51, 52, 53, 54, 55, 56, 57, 58, 59, 60, 61, 62, 63, 64, 65, 66, 67, 68, 69, 70, 71, 72, 73, 74, 75, 76, 77, 78, 102, 103, 104, 105, 106, 107, 108, 109, 110, 111, 112, 113, 114, 115, 116, 117, 118, 119, 120, 121, 122, 123] (by decide +kernel) (by decide +kernel)
set_option maxRecDepth 20000 in
theorem gX3_join_X3_tryCall : GoodIn wsX3_join (wsV RX3 23 RX3 yX3_tryCall wsX3_tryCall) := goodIn_app (goodIn_of _ (by decide +kernel)) ggX3_join_X3_tryCall
set_option maxRecDepth 20000 in
theorem ggX3_join_X1_addCall : GoodIn wsX3_join wsX1_addCall := goodIn_r _ [82, 17, 83, 84, 28, 85, 76, 77, 21, 78, 23, 102, 103, 104, 105, 106, 107, 108, 109, 110, 111, 112, 113, 114, 115, 116, 117, 118] (by decide +kernel) (by decide +kernel)
set_option maxRecDepth 20000 in
theorem gX3_join_X1_addCall : GoodIn wsX3_join (wsV RX3 27 RX1 yX1_addCall wsX1_addCall) := goodIn_app (goodIn_of _ (by decide +kernel)) ggX3_join_X1_addCall
set_option maxRecDepth 20000 in
theorem ggX3_join_X3_settle : GoodIn wsX3_join wsX3_settle := goodIn_r _ [89, 33, 72, 71, 36, 90, 74, 19, 20, 21, 22, 23, 91, 92, 93, 9, 94, 95, 61, 96, 84, 18, 97, 38, 39, 40, 12, 47, 48, 49, 85, 76, 77, 78, 98, 99, 100, 101, 119, 120, 121, 122, 123, 102, 103, 104, 105, 106, 107, 108, 109, 110, 111, 112, 113, 114, 115, 116, 117, 118] (by decide +kernel) (by decide +kernel)
set_option maxRecDepth 20000 in
theorem gX3_join_X3_settle : GoodIn wsX3_join (wsV RX3 33 RX3 yX3_settle wsX3_settle) := goodIn_app (goodIn_of _ (by decide +kernel)) ggX3_join_X3_settle
theorem dX3_join_0 : decode cX3_join 0 = .ok (.aload_n 0, 1) := by decide +kernel
theorem dX3_join_1 : decode cX3_join 1 = .ok (.aload_n 1, 1) := by decide +kernel
theorem dX3_join_2 : decode cX3_join 2 = .ok (.iload_n 2, 1) := by decide +kernel
theorem dX3_join_3 : decode cX3_join 3 = .ok (.iload_n 3, 1) := by decide +kernel
theorem dX3_join_4 : decode cX3_join 4 = .ok (.invokevirtual 23, 3) := by decide +kernel
theorem dX3_join_7 : decode cX3_join 7 = .ok (.istore 4, 2) := by decide +kernel
theorem dX3_join_9 : decode cX3_join 9 = .ok (.iload 4, 2) := by decide +kernel
theorem dX3_join_11 : decode cX3_join 11 = .ok (.ifCond .ge 6, 3) := by decide +kernel
theorem dX3_join_14 : decode cX3_join 14 = .ok (.iload 4, 2) := by decide +kernel
theorem dX3_join_16 : decode cX3_join 16 = .ok (.ireturn, 1) := by decide +kernel
theorem dX3_join_17 : decode cX3_join 17 = .ok (.aload_n 1, 1) := by decide +kernel
theorem dX3_join_18 : decode cX3_join 18 = .ok (.iload_n 2, 1) := by decide +kernel
theorem dX3_join_19 : decode cX3_join 19 = .ok (.iload_n 3, 1) := by decide +kernel
theorem dX3_join_20 : decode cX3_join 20 = .ok (.invokevirtual 27, 3) := by decide +kernel
theorem dX3_join_23 : decode cX3_join 23 = .ok (.aload_n 0, 1) := by decide +kernel
theorem dX3_join_24 : decode cX3_join 24 = .ok (.aload_n 1, 1) := by decide +kernel
theorem dX3_join_25 : decode cX3_join 25 = .ok (.iload_n 2, 1) := by decide +kernel
theorem dX3_join_26 : decode cX3_join 26 = .ok (.iload 4, 2) := by decide +kernel
theorem dX3_join_28 : decode cX3_join 28 = .ok (.invokevirtual 33, 3) := by decide +kernel
theorem dX3_join_31 : decode cX3_join 31 = .ok (.iload 4, 2) := by decide +kernel
theorem dX3_join_33 : decode cX3_join 33 = .ok (.ireturn, 1) := by decide +kernel
set_option maxRecDepth 20000 in
theorem ggX3_part_X1_isLine : GoodIn wsX3_part wsX1_isLine := goodIn_r _ [7, 8, 9, 46, 47, 48, 49, 50, 51, 52, 53, 54, 55, 56, 57, 58, 59, 60, 61] (by decide +kernel) (by decide +kernel)
set_option maxRecDepth 20000 in
theorem gX3_part_X1_isLine : GoodIn wsX3_part (wsV RX3 37 RX1 yX1_isLine wsX1_isLine) := goodIn_app (goodIn_of _ (by decide +kernel)) ggX3_part_X1_isLine
set_option maxRecDepth 20000 in
theorem ggX3_part_X1_isInletBusy : GoodIn wsX3_part wsX1_isInletBusy := goodIn_r _ [13, 14, 15, 16, 17, 18, 19, 20, 46, 47, 48, 49, 50, 51, 52, 53, 54, 55, 56, 57, 58, 59, 60, 61, 62] (by decide +kernel) (by decide +kernel)
set_option maxRecDepth 20000 in
theorem gX3_part_X1_isInletBusy : GoodIn wsX3_part (wsV RX3 41 RX1 yX1_isInletBusy wsX1_isInletBusy) := goodIn_app (goodIn_of _ (by decide +kernel)) ggX3_part_X1_isInletBusy
set_option maxRecDepth 20000 in
theorem ggX3_part_X4_get : GoodIn wsX3_part wsX4_get := goodIn_r _ [19, 20, 62] (by decide +kernel) (by decide +kernel)
set_option maxRecDepth 20000 in
theorem gX3_part_X4_get : GoodIn wsX3_part (wsV RX3 47 RX4 yX4_get wsX4_get) := goodIn_app (goodIn_of _ (by decide +kernel)) ggX3_part_X4_get
set_option maxRecDepth 20000 in
theorem ggX3_part_X1_removeCall : GoodIn wsX3_part wsX1_removeCall := goodIn_r _ [25, 26, 27, 14, 28, 29, 30, 6, 31, 32, 33, 34, 15, 16, 17, 18, 19, 20, 35, 36, 37, 38, 9, 39, 40, 41, 42, 43, 44, 45, 46, 47, 48, 49, 50, 51, 52, 53, 54, 55, 56, 57, 58, 59, 60, 61, 62] (by decide +kernel) (by decide +kernel)
set_option maxRecDepth 20000 in
theorem gX3_part_X1_removeCall : GoodIn wsX3_part (wsV RX3 51 RX1 yX1_removeCall wsX1_removeCall) := goodIn_app (goodIn_of _ (by decide +kernel)) ggX3_part_X1_removeCall
theorem dX3_part_0 : decode cX3_part 0 = .ok (.aload_n 1, 1) := by decide +kernel
theorem dX3_part_1 : decode cX3_part 1 = .ok (.iload_n 2, 1) := by decide +kernel
theorem dX3_part_2 : decode cX3_part 2 = .ok (.invokevirtual 37, 3) := by decide +kernel
theorem dX3_part_5 : decode cX3_part 5 = .ok (.ifCond .ne 5, 3) := by decide +kernel
theorem dX3_part_8 : decode cX3_part 8 = .ok (.iconst (-1), 1) := by decide +kernel
theorem dX3_part_9 : decode cX3_part 9 = .ok (.ireturn, 1) := by decide +kernel
theorem dX3_part_10 : decode cX3_part 10 = .ok (.aload_n 1, 1) := by decide +kernel
theorem dX3_part_11 : decode cX3_part 11 = .ok (.iload_n 2, 1) := by decide +kernel
theorem dX3_part_12 : decode cX3_part 12 = .ok (.invokevirtual 41, 3) := by decide +kernel
theorem dX3_part_15 : decode cX3_part 15 = .ok (.ifCond .ne 6, 3) := by decide +kernel
theorem dX3_part_18 : decode cX3_part 18 = .ok (.bipush (-3), 2) := by decide +kernel
theorem dX3_part_20 : decode cX3_part 20 = .ok (.ireturn, 1) := by decide +kernel
theorem dX3_part_21 : decode cX3_part 21 = .ok (.aload_n 1, 1) := by decide +kernel
theorem dX3_part_22 : decode cX3_part 22 = .ok (.getfield 44, 3) := by decide +kernel
theorem dX3_part_25 : decode cX3_part 25 = .ok (.iload_n 2, 1) := by decide +kernel
theorem dX3_part_26 : decode cX3_part 26 = .ok (.invokevirtual 47, 3) := by decide +kernel
theorem dX3_part_29 : decode cX3_part 29 = .ok (.istore_n 3, 1) := by decide +kernel
theorem dX3_part_30 : decode cX3_part 30 = .ok (.aload_n 1, 1) := by decide +kernel
theorem dX3_part_31 : decode cX3_part 31 = .ok (.iload_n 2, 1) := by decide +kernel
theorem dX3_part_32 : decode cX3_part 32 = .ok (.invokevirtual 51, 3) := by decide +kernel
theorem dX3_part_35 : decode cX3_part 35 = .ok (.aload_n 1, 1) := by decide +kernel
theorem dX3_part_36 : decode cX3_part 36 = .ok (.dup, 1) := by decide +kernel
theorem dX3_part_37 : decode cX3_part 37 = .ok (.getfield 54, 3) := by decide +kernel
theorem dX3_part_40 : decode cX3_part 40 = .ok (.iconst 1, 1) := by decide +kernel
theorem dX3_part_41 : decode cX3_part 41 = .ok (.iadd, 1) := by decide +kernel
theorem dX3_part_42 : decode cX3_part 42 = .ok (.putfield 54, 3) := by decide +kernel
theorem dX3_part_45 : decode cX3_part 45 = .ok (.iload_n 3, 1) := by decide +kernel
theorem dX3_part_46 : decode cX3_part 46 = .ok (.ireturn, 1) := by decide +kernel
set_option maxRecDepth 20000 in
theorem ggX3_retire_X1_isMiddle : GoodIn wsX3_retire wsX1_isMiddle := goodIn_r _ [7, 8, 105, 106, 107, 108, 109, 110, 111, 112, 113, 114, 115, 116, 117, 118, 119, 120] (by decide +kernel) (by decide +kernel)
set_option maxRecDepth 20000 in
theorem gX3_retire_X1_isMiddle : GoodIn wsX3_retire (wsV RX3 58 RX1 yX1_isMiddle wsX1_isMiddle) := goodIn_app (goodIn_of _ (by decide +kernel)) ggX3_retire_X1_isMiddle
set_option maxRecDepth 20000 in
theorem ggX3_retire_X5_hasBit : GoodIn wsX3_retire wsX5_hasBit := goodIn_r _ [11] (by decide +kernel) (by decide +kernel)
set_option maxRecDepth 20000 in
theorem gX3_retire_X5_hasBit_n64 : GoodIn wsX3_retire (wsX5_hasBit) := ggX3_retire_X5_hasBit
set_option maxRecDepth 20000 in
theorem ggX3_retire_X4_get : GoodIn wsX3_retire wsX4_get := goodIn_r _ [16, 17, 121] (by decide +kernel) (by decide +kernel)
set_option maxRecDepth 20000 in
theorem gX3_retire_X4_get : GoodIn wsX3_retire (wsV RX3 47 RX4 yX4_get wsX4_get) := goodIn_app (goodIn_of _ (by decide +kernel)) ggX3_retire_X4_get
set_option maxRecDepth 20000 in
theorem ggX3_retire_X1_liftCall : GoodIn wsX3_retire wsX1_liftCall := goodIn_r _ [21, 22, 23, 24, 25, 26, 13, 14, 15, 16, 17, 27, 28, 29, 6, 30, 31, 32, 10, 33, 34, 35, 36, 37, 105, 106, 107, 108, 109, 110, 111, 112, 113, 114, 115, 116, 117, 118, 119, 120, 121] (by decide +kernel) (by decide +kernel)
set_option maxRecDepth 20000 in
theorem gX3_retire_X1_liftCall : GoodIn wsX3_retire (wsV RX3 71 RX1 yX1_liftCall wsX1_liftCall) := goodIn_app (goodIn_of _ (by decide +kernel)) ggX3_retire_X1_liftCall
set_option maxRecDepth 20000 in
theorem ggX3_retire_X3_reroute : GoodIn wsX3_retire wsX3_reroute := goodIn_r _ [42, 43, 44, 45, 46, 47, 48, 6, 49, 22, 50, 51, 52, 53, 54, 26, 13, 14, 15, 16, 17, 12, 55, 56, 57, 41, 58, 59, 60, 61, 62, 63, 28, 29, 30, 31, 64, 65, 66, 67, 8, 68, 32, 10, 33, 69, 70, 71, 72, 73, 9, 11, 74, 75, 76, 77, 78, 23, 79, 80, 81, 82, 83, 84, 85, 86, 87, 88, 89, 90, 35, 36, 37, 91, 92, 93, 94, 95, 25, 96, 19, 20, 21, 24, 27, 34, 97, 98, 99, 100, 18, 101, 102, 103, 104, 105, 106, 107, 108, 109, 110, 111, 112, 113, 114, 115, 116, 117, 118, 119, 120, 121, 122, 123, 124, 125, 126] (by decide +kernel) (by decide +kernel)
set_option maxRecDepth 20000 in
theorem gX3_retire_X3_reroute : GoodIn wsX3_retire (wsV RX3 74 RX3 yX3_reroute wsX3_reroute) := goodIn_app (goodIn_of _ (by decide +kernel)) ggX3_retire_X3_reroute
theorem dX3_retire_0 : decode cX3_retire 0 = .ok (.aload_n 1, 1) := by decide +kernel
theorem dX3_retire_1 : decode cX3_retire 1 = .ok (.iload_n 2, 1) := by decide +kernel
theorem dX3_retire_2 : decode cX3_retire 2 = .ok (.invokevirtual 58, 3) := by decide +kernel
theorem dX3_retire_5 : decode cX3_retire 5 = .ok (.ifCond .ne 5, 3) := by decide +kernel
theorem dX3_retire_8 : decode cX3_retire 8 = .ok (.iconst (-1), 1) := by decide +kernel
theorem dX3_retire_9 : decode cX3_retire 9 = .ok (.ireturn, 1) := by decide +kernel
theorem dX3_retire_10 : decode cX3_retire 10 = .ok (.aload_n 1, 1) := by decide +kernel
theorem dX3_retire_11 : decode cX3_retire 11 = .ok (.getfield 61, 3) := by decide +kernel
theorem dX3_retire_14 : decode cX3_retire 14 = .ok (.iload_n 2, 1) := by decide +kernel
theorem dX3_retire_15 : decode cX3_retire 15 = .ok (.invokestatic 64, 3) := by decide +kernel
theorem dX3_retire_18 : decode cX3_retire 18 = .ok (.ifCond .ne 6, 3) := by decide +kernel
theorem dX3_retire_21 : decode cX3_retire 21 = .ok (.bipush (-6), 2) := by decide +kernel
theorem dX3_retire_23 : decode cX3_retire 23 = .ok (.ireturn, 1) := by decide +kernel
theorem dX3_retire_24 : decode cX3_retire 24 = .ok (.aload_n 1, 1) := by decide +kernel
theorem dX3_retire_25 : decode cX3_retire 25 = .ok (.dup, 1) := by decide +kernel
theorem dX3_retire_26 : decode cX3_retire 26 = .ok (.getfield 61, 3) := by decide +kernel
theorem dX3_retire_29 : decode cX3_retire 29 = .ok (.iconst 1, 1) := by decide +kernel
theorem dX3_retire_30 : decode cX3_retire 30 = .ok (.iload_n 2, 1) := by decide +kernel
theorem dX3_retire_31 : decode cX3_retire 31 = .ok (.ishl, 1) := by decide +kernel
theorem dX3_retire_32 : decode cX3_retire 32 = .ok (.iconst (-1), 1) := by decide +kernel
theorem dX3_retire_33 : decode cX3_retire 33 = .ok (.ixor, 1) := by decide +kernel
theorem dX3_retire_34 : decode cX3_retire 34 = .ok (.iand, 1) := by decide +kernel
theorem dX3_retire_35 : decode cX3_retire 35 = .ok (.putfield 61, 3) := by decide +kernel
theorem dX3_retire_38 : decode cX3_retire 38 = .ok (.iconst 0, 1) := by decide +kernel
theorem dX3_retire_39 : decode cX3_retire 39 = .ok (.istore_n 3, 1) := by decide +kernel
theorem dX3_retire_40 : decode cX3_retire 40 = .ok (.iload_n 3, 1) := by decide +kernel
theorem dX3_retire_41 : decode cX3_retire 41 = .ok (.bipush 48, 2) := by decide +kernel
theorem dX3_retire_43 : decode cX3_retire 43 = .ok (.if_icmp .ge 26, 3) := by decide +kernel
theorem dX3_retire_46 : decode cX3_retire 46 = .ok (.aload_n 1, 1) := by decide +kernel
theorem dX3_retire_47 : decode cX3_retire 47 = .ok (.getfield 68, 3) := by decide +kernel
theorem dX3_retire_50 : decode cX3_retire 50 = .ok (.iload_n 3, 1) := by decide +kernel
theorem dX3_retire_51 : decode cX3_retire 51 = .ok (.invokevirtual 47, 3) := by decide +kernel
theorem dX3_retire_54 : decode cX3_retire 54 = .ok (.iload_n 2, 1) := by decide +kernel
theorem dX3_retire_55 : decode cX3_retire 55 = .ok (.if_icmp .ne 8, 3) := by decide +kernel
theorem dX3_retire_58 : decode cX3_retire 58 = .ok (.aload_n 1, 1) := by decide +kernel
theorem dX3_retire_59 : decode cX3_retire 59 = .ok (.iload_n 3, 1) := by decide +kernel
theorem dX3_retire_60 : decode cX3_retire 60 = .ok (.invokevirtual 71, 3) := by decide +kernel
theorem dX3_retire_63 : decode cX3_retire 63 = .ok (.iinc 3 1, 3) := by decide +kernel
theorem dX3_retire_66 : decode cX3_retire 66 = .ok (.goto (-26), 3) := by decide +kernel
theorem dX3_retire_69 : decode cX3_retire 69 = .ok (.aload_n 0, 1) := by decide +kernel
theorem dX3_retire_70 : decode cX3_retire 70 = .ok (.aload_n 1, 1) := by decide +kernel
theorem dX3_retire_71 : decode cX3_retire 71 = .ok (.invokevirtual 74, 3) := by decide +kernel
theorem dX3_retire_74 : decode cX3_retire 74 = .ok (.ireturn, 1) := by decide +kernel
set_option maxRecDepth 20000 in
theorem ggX3_revive_X1_isMiddle : GoodIn wsX3_revive wsX1_isMiddle := goodIn_r _ [6, 7, 18, 19, 20, 21, 22, 23, 24, 25, 26, 27, 28, 29, 30, 31, 32, 33] (by decide +kernel) (by decide +kernel)
set_option maxRecDepth 20000 in
theorem gX3_revive_X1_isMiddle : GoodIn wsX3_revive (wsV RX3 58 RX1 yX1_isMiddle wsX1_isMiddle) := goodIn_app (goodIn_of _ (by decide +kernel)) ggX3_revive_X1_isMiddle
set_option maxRecDepth 20000 in
theorem ggX3_revive_X5_hasBit : GoodIn wsX3_revive wsX5_hasBit := goodIn_r _ [10] (by decide +kernel) (by decide +kernel)
set_option maxRecDepth 20000 in
theorem gX3_revive_X5_hasBit_n64 : GoodIn wsX3_revive (wsX5_hasBit) := ggX3_revive_X5_hasBit
set_option maxRecDepth 20000 in
theorem ggX3_revive_J6_bitCount_0f7a4 : GoodIn wsX3_revive wsJ6_bitCount_0f7a4 := goodIn_r _ [14, 15, 16, 17] (by decide +kernel) (by decide +kernel)
set_option maxRecDepth 20000 in
theorem gX3_revive_J6_bitCount_0f7a4 : GoodIn wsX3_revive (va_wsS RX3 78 yJ6_bitCount_0f7a4 wsJ6_bitCount_0f7a4) := goodIn_app (goodIn_of _ (by decide +kernel)) ggX3_revive_J6_bitCount_0f7a4
theorem dX3_revive_0 : decode cX3_revive 0 = .ok (.aload_n 1, 1) := by decide +kernel
theorem dX3_revive_1 : decode cX3_revive 1 = .ok (.iload_n 2, 1) := by decide +kernel
theorem dX3_revive_2 : decode cX3_revive 2 = .ok (.invokevirtual 58, 3) := by decide +kernel
theorem dX3_revive_5 : decode cX3_revive 5 = .ok (.ifCond .ne 5, 3) := by decide +kernel
theorem dX3_revive_8 : decode cX3_revive 8 = .ok (.iconst (-1), 1) := by decide +kernel
theorem dX3_revive_9 : decode cX3_revive 9 = .ok (.ireturn, 1) := by decide +kernel
theorem dX3_revive_10 : decode cX3_revive 10 = .ok (.aload_n 1, 1) := by decide +kernel
theorem dX3_revive_11 : decode cX3_revive 11 = .ok (.getfield 61, 3) := by decide +kernel
theorem dX3_revive_14 : decode cX3_revive 14 = .ok (.iload_n 2, 1) := by decide +kernel
theorem dX3_revive_15 : decode cX3_revive 15 = .ok (.invokestatic 64, 3) := by decide +kernel
theorem dX3_revive_18 : decode cX3_revive 18 = .ok (.ifCond .eq 6, 3) := by decide +kernel
theorem dX3_revive_21 : decode cX3_revive 21 = .ok (.bipush (-6), 2) := by decide +kernel
theorem dX3_revive_23 : decode cX3_revive 23 = .ok (.ireturn, 1) := by decide +kernel
theorem dX3_revive_24 : decode cX3_revive 24 = .ok (.aload_n 1, 1) := by decide +kernel
theorem dX3_revive_25 : decode cX3_revive 25 = .ok (.dup, 1) := by decide +kernel
theorem dX3_revive_26 : decode cX3_revive 26 = .ok (.getfield 61, 3) := by decide +kernel
theorem dX3_revive_29 : decode cX3_revive 29 = .ok (.iconst 1, 1) := by decide +kernel
theorem dX3_revive_30 : decode cX3_revive 30 = .ok (.iload_n 2, 1) := by decide +kernel
theorem dX3_revive_31 : decode cX3_revive 31 = .ok (.ishl, 1) := by decide +kernel
theorem dX3_revive_32 : decode cX3_revive 32 = .ok (.ior, 1) := by decide +kernel
theorem dX3_revive_33 : decode cX3_revive 33 = .ok (.putfield 61, 3) := by decide +kernel
theorem dX3_revive_36 : decode cX3_revive 36 = .ok (.aload_n 1, 1) := by decide +kernel
theorem dX3_revive_37 : decode cX3_revive 37 = .ok (.getfield 61, 3) := by decide +kernel
theorem dX3_revive_40 : decode cX3_revive 40 = .ok (.invokestatic 78, 3) := by decide +kernel
theorem dX3_revive_43 : decode cX3_revive 43 = .ok (.ireturn, 1) := by decide +kernel
set_option maxRecDepth 20000 in
theorem ggX3_repack_X1_countCalls : GoodIn wsX3_repack wsX1_countCalls := goodIn_r _ [9, 10, 11, 12, 13, 14, 15, 16, 136, 137, 138, 139, 140, 141, 142, 143, 144, 145, 146, 147, 148, 149, 150, 151, 157] (by decide +kernel) (by decide +kernel)
set_option maxRecDepth 20000 in
theorem gX3_repack_X1_countCalls : GoodIn wsX3_repack (wsV RX3 83 RX1 yX1_countCalls wsX1_countCalls) := goodIn_app (goodIn_of _ (by decide +kernel)) ggX3_repack_X1_countCalls
set_option maxRecDepth 20000 in
theorem ggX3_repack_X1_fullestBoard : GoodIn wsX3_repack wsX1_fullestBoard := goodIn_r _ [20, 21, 22, 23, 24, 25, 26, 27, 28, 29, 8, 30, 10, 11, 12, 13, 14, 15, 16, 31, 32, 33, 34, 35, 136, 137, 138, 139, 140, 141, 142, 143, 144, 145, 146, 147, 148, 149, 150, 151, 157] (by decide +kernel) (by decide +kernel)
set_option maxRecDepth 20000 in
theorem gX3_repack_X1_fullestBoard : GoodIn wsX3_repack (wsV RX3 90 RX1 yX1_fullestBoard wsX1_fullestBoard) := goodIn_app (goodIn_of _ (by decide +kernel)) ggX3_repack_X1_fullestBoard
set_option maxRecDepth 20000 in
theorem ggX3_repack_X3_lowestBits : GoodIn wsX3_repack wsX3_lowestBits := goodIn_r _ [39, 40, 41, 42] (by decide +kernel) (by decide +kernel)
set_option maxRecDepth 20000 in
theorem gX3_repack_X3_lowestBits : GoodIn wsX3_repack (va_wsS RX3 93 yX3_lowestBits wsX3_lowestBits) := goodIn_app (goodIn_of _ (by decide +kernel)) ggX3_repack_X3_lowestBits
set_option maxRecDepth 20000 in
theorem ggX3_repack_X4_copyFrom : GoodIn wsX3_repack wsX4_copyFrom := goodIn_r _ [46, 16, 47, 48, 25, 49, 50, 51, 52, 53, 157] (by decide +kernel) (by decide +kernel)
set_option maxRecDepth 20000 in
theorem gX3_repack_X4_copyFrom : GoodIn wsX3_repack (wsV RX3 97 RX4 yX4_copyFrom wsX4_copyFrom) := goodIn_app (goodIn_of _ (by decide +kernel)) ggX3_repack_X4_copyFrom
set_option maxRecDepth 20000 in
theorem ggX3_repack_X1_liftCall : GoodIn wsX3_repack wsX1_liftCall := goodIn_r _ [57, 58, 59, 60, 61, 11, 12, 13, 14, 15, 16, 62, 63, 64, 8, 65, 22, 66, 41, 67, 68, 69, 70, 71, 136, 137, 138, 139, 140, 141, 142, 143, 144, 145, 146, 147, 148, 149, 150, 151, 157] (by decide +kernel) (by decide +kernel)
set_option maxRecDepth 20000 in
theorem gX3_repack_X1_liftCall : GoodIn wsX3_repack (wsV RX3 71 RX1 yX1_liftCall wsX1_liftCall) := goodIn_app (goodIn_of _ (by decide +kernel)) ggX3_repack_X1_liftCall
set_option maxRecDepth 20000 in
theorem ggX3_repack_X3_reroute : GoodIn wsX3_repack wsX3_reroute := goodIn_r _ [75, 76, 2, 77, 78, 79, 80, 8, 81, 58, 10, 27, 28, 29, 30, 11, 12, 13, 14, 15, 16, 82, 83, 84, 85, 38, 86, 87, 88, 89, 90, 91, 63, 64, 65, 22, 92, 93, 94, 95, 96, 97, 66, 41, 67, 98, 99, 100, 101, 102, 40, 42, 103, 104, 105, 106, 21, 59, 107, 108, 109, 110, 111, 112, 113, 114, 115, 116, 117, 118, 69, 70, 71, 119, 120, 121, 122, 35, 61, 123, 55, 56, 57, 60, 62, 68, 124, 125, 126, 127, 54, 128, 129, 130, 131, 136, 137, 138, 139, 140, 141, 142, 143, 144, 145, 146, 147, 148, 149, 150, 151, 157, 152, 153, 154, 155, 156] (by decide +kernel) (by decide +kernel)
set_option maxRecDepth 20000 in
theorem gX3_repack_X3_reroute : GoodIn wsX3_repack (wsV RX3 74 RX3 yX3_reroute wsX3_reroute) := goodIn_app (goodIn_of _ (by decide +kernel)) ggX3_repack_X3_reroute
set_option maxRecDepth 20000 in
theorem ggX3_repack_X3_countChanged : GoodIn wsX3_repack wsX3_countChanged := goodIn_r _ [135, 4, 3, 82, 12, 13, 14, 15, 16, 136, 137, 138, 139, 140, 141, 142, 143, 144, 145, 146, 147, 148, 149, 150, 151, 152, 153, 154, 155, 156, 157] (by decide +kernel) (by decide +kernel)
set_option maxRecDepth 20000 in
theorem gX3_repack_X3_countChanged : GoodIn wsX3_repack (wsV RX3 101 RX3 yX3_countChanged wsX3_countChanged) := goodIn_app (goodIn_of _ (by decide +kernel)) ggX3_repack_X3_countChanged
theorem dX3_repack_0 : decode cX3_repack 0 = .ok (.aload_n 1, 1) := by decide +kernel
theorem dX3_repack_1 : decode cX3_repack 1 = .ok (.invokevirtual 83, 3) := by decide +kernel
theorem dX3_repack_4 : decode cX3_repack 4 = .ok (.ifCond .ne 6, 3) := by decide +kernel
theorem dX3_repack_7 : decode cX3_repack 7 = .ok (.bipush (-6), 2) := by decide +kernel
theorem dX3_repack_9 : decode cX3_repack 9 = .ok (.ireturn, 1) := by decide +kernel
theorem dX3_repack_10 : decode cX3_repack 10 = .ok (.aload_n 1, 1) := by decide +kernel
theorem dX3_repack_11 : decode cX3_repack 11 = .ok (.getfield 61, 3) := by decide +kernel
theorem dX3_repack_14 : decode cX3_repack 14 = .ok (.istore_n 2, 1) := by decide +kernel
theorem dX3_repack_15 : decode cX3_repack 15 = .ok (.aload_n 1, 1) := by decide +kernel
theorem dX3_repack_16 : decode cX3_repack 16 = .ok (.getfield 87, 3) := by decide +kernel
theorem dX3_repack_19 : decode cX3_repack 19 = .ok (.istore_n 3, 1) := by decide +kernel
theorem dX3_repack_20 : decode cX3_repack 20 = .ok (.aload_n 1, 1) := by decide +kernel
theorem dX3_repack_21 : decode cX3_repack 21 = .ok (.iload_n 2, 1) := by decide +kernel
theorem dX3_repack_22 : decode cX3_repack 22 = .ok (.aload_n 1, 1) := by decide +kernel
theorem dX3_repack_23 : decode cX3_repack 23 = .ok (.invokevirtual 90, 3) := by decide +kernel
theorem dX3_repack_26 : decode cX3_repack 26 = .ok (.invokestatic 93, 3) := by decide +kernel
theorem dX3_repack_29 : decode cX3_repack 29 = .ok (.putfield 61, 3) := by decide +kernel
theorem dX3_repack_32 : decode cX3_repack 32 = .ok (.aload_n 0, 1) := by decide +kernel
theorem dX3_repack_33 : decode cX3_repack 33 = .ok (.getfield 20, 3) := by decide +kernel
theorem dX3_repack_36 : decode cX3_repack 36 = .ok (.aload_n 1, 1) := by decide +kernel
theorem dX3_repack_37 : decode cX3_repack 37 = .ok (.getfield 68, 3) := by decide +kernel
theorem dX3_repack_40 : decode cX3_repack 40 = .ok (.invokevirtual 97, 3) := by decide +kernel
theorem dX3_repack_43 : decode cX3_repack 43 = .ok (.iconst 0, 1) := by decide +kernel
theorem dX3_repack_44 : decode cX3_repack 44 = .ok (.istore 4, 2) := by decide +kernel
theorem dX3_repack_46 : decode cX3_repack 46 = .ok (.iload 4, 2) := by decide +kernel
theorem dX3_repack_48 : decode cX3_repack 48 = .ok (.bipush 48, 2) := by decide +kernel
theorem dX3_repack_50 : decode cX3_repack 50 = .ok (.if_icmp .ge 15, 3) := by decide +kernel
theorem dX3_repack_53 : decode cX3_repack 53 = .ok (.aload_n 1, 1) := by decide +kernel
theorem dX3_repack_54 : decode cX3_repack 54 = .ok (.iload 4, 2) := by decide +kernel
theorem dX3_repack_56 : decode cX3_repack 56 = .ok (.invokevirtual 71, 3) := by decide +kernel
theorem dX3_repack_59 : decode cX3_repack 59 = .ok (.iinc 4 1, 3) := by decide +kernel
theorem dX3_repack_62 : decode cX3_repack 62 = .ok (.goto (-16), 3) := by decide +kernel
theorem dX3_repack_65 : decode cX3_repack 65 = .ok (.aload_n 0, 1) := by decide +kernel
theorem dX3_repack_66 : decode cX3_repack 66 = .ok (.aload_n 1, 1) := by decide +kernel
theorem dX3_repack_67 : decode cX3_repack 67 = .ok (.invokevirtual 74, 3) := by decide +kernel
theorem dX3_repack_70 : decode cX3_repack 70 = .ok (.pop, 1) := by decide +kernel
theorem dX3_repack_71 : decode cX3_repack 71 = .ok (.aload_n 1, 1) := by decide +kernel
theorem dX3_repack_72 : decode cX3_repack 72 = .ok (.iload_n 2, 1) := by decide +kernel
theorem dX3_repack_73 : decode cX3_repack 73 = .ok (.putfield 61, 3) := by decide +kernel
theorem dX3_repack_76 : decode cX3_repack 76 = .ok (.aload_n 0, 1) := by decide +kernel
theorem dX3_repack_77 : decode cX3_repack 77 = .ok (.aload_n 1, 1) := by decide +kernel
theorem dX3_repack_78 : decode cX3_repack 78 = .ok (.invokevirtual 101, 3) := by decide +kernel
theorem dX3_repack_81 : decode cX3_repack 81 = .ok (.istore 4, 2) := by decide +kernel
theorem dX3_repack_83 : decode cX3_repack 83 = .ok (.aload_n 1, 1) := by decide +kernel
theorem dX3_repack_84 : decode cX3_repack 84 = .ok (.iload_n 3, 1) := by decide +kernel
theorem dX3_repack_85 : decode cX3_repack 85 = .ok (.iload 4, 2) := by decide +kernel
theorem dX3_repack_87 : decode cX3_repack 87 = .ok (.iadd, 1) := by decide +kernel
theorem dX3_repack_88 : decode cX3_repack 88 = .ok (.putfield 87, 3) := by decide +kernel
theorem dX3_repack_91 : decode cX3_repack 91 = .ok (.iload 4, 2) := by decide +kernel
theorem dX3_repack_93 : decode cX3_repack 93 = .ok (.ireturn, 1) := by decide +kernel
set_option maxRecDepth 20000 in
theorem ggX3_tryCall_X1_isLine : GoodIn wsX3_tryCall wsX1_isLine := goodIn_r _ [5, 6, 7, 75, 76, 77, 78, 79, 80, 81, 82, 83, 84, 85, 86, 87, 88, 89, 90] (by decide +kernel) (by decide +kernel)
set_option maxRecDepth 20000 in
theorem gX3_tryCall_X1_isLine : GoodIn wsX3_tryCall (wsV RX3 37 RX1 yX1_isLine wsX1_isLine) := goodIn_app (goodIn_of _ (by decide +kernel)) ggX3_tryCall_X1_isLine
set_option maxRecDepth 20000 in
theorem ggX3_tryCall_X1_isInletBusy : GoodIn wsX3_tryCall wsX1_isInletBusy := goodIn_r _ [11, 12, 13, 14, 15, 16, 17, 18, 75, 76, 77, 78, 79, 80, 81, 82, 83, 84, 85, 86, 87, 88, 89, 90, 91] (by decide +kernel) (by decide +kernel)
set_option maxRecDepth 20000 in
theorem gX3_tryCall_X1_isInletBusy : GoodIn wsX3_tryCall (wsV RX3 41 RX1 yX1_isInletBusy wsX1_isInletBusy) := goodIn_app (goodIn_of _ (by decide +kernel)) ggX3_tryCall_X1_isInletBusy
set_option maxRecDepth 20000 in
theorem ggX3_tryCall_X1_isOutletBusy : GoodIn wsX3_tryCall wsX1_isOutletBusy := goodIn_r _ [22, 23, 13, 14, 15, 16, 17, 18, 75, 76, 77, 78, 79, 80, 81, 82, 83, 84, 85, 86, 87, 88, 89, 90, 91] (by decide +kernel) (by decide +kernel)
set_option maxRecDepth 20000 in
theorem gX3_tryCall_X1_isOutletBusy : GoodIn wsX3_tryCall (wsV RX3 104 RX1 yX1_isOutletBusy wsX1_isOutletBusy) := goodIn_app (goodIn_of _ (by decide +kernel)) ggX3_tryCall_X1_isOutletBusy
set_option maxRecDepth 20000 in
theorem ggX3_tryCall_X3_findWay : GoodIn wsX3_tryCall wsX3_findWay := goodIn_r _ [28, 29, 30, 31, 32, 33, 34, 35, 4, 36, 7, 37, 38, 39, 40, 41, 42, 43, 44, 45, 13, 14, 15, 16, 17, 18, 46, 47, 48, 27, 49, 50, 51, 52, 53, 54, 55, 56, 6, 57, 58, 59, 60, 61, 62, 63, 64, 65, 66, 67, 68, 69, 70, 71, 72, 73, 74, 92, 93, 94, 95, 96, 75, 76, 77, 78, 79, 80, 81, 82, 83, 84, 85, 86, 87, 88, 89, 90, 91] (by decide +kernel) (by decide +kernel)
set_option maxRecDepth 20000 in
theorem gX3_tryCall_X3_findWay : GoodIn wsX3_tryCall (wsV RX3 107 RX3 yX3_findWay wsX3_findWay) := goodIn_app (goodIn_of _ (by decide +kernel)) ggX3_tryCall_X3_findWay
theorem dX3_tryCall_0 : decode cX3_tryCall 0 = .ok (.aload_n 1, 1) := by decide +kernel
theorem dX3_tryCall_1 : decode cX3_tryCall 1 = .ok (.iload_n 2, 1) := by decide +kernel
theorem dX3_tryCall_2 : decode cX3_tryCall 2 = .ok (.invokevirtual 37, 3) := by decide +kernel
theorem dX3_tryCall_5 : decode cX3_tryCall 5 = .ok (.ifCond .eq 11, 3) := by decide +kernel
theorem dX3_tryCall_8 : decode cX3_tryCall 8 = .ok (.aload_n 1, 1) := by decide +kernel
theorem dX3_tryCall_9 : decode cX3_tryCall 9 = .ok (.iload_n 3, 1) := by decide +kernel
theorem dX3_tryCall_10 : decode cX3_tryCall 10 = .ok (.invokevirtual 37, 3) := by decide +kernel
theorem dX3_tryCall_13 : decode cX3_tryCall 13 = .ok (.ifCond .ne 5, 3) := by decide +kernel
theorem dX3_tryCall_16 : decode cX3_tryCall 16 = .ok (.iconst (-1), 1) := by decide +kernel
theorem dX3_tryCall_17 : decode cX3_tryCall 17 = .ok (.ireturn, 1) := by decide +kernel
theorem dX3_tryCall_18 : decode cX3_tryCall 18 = .ok (.aload_n 1, 1) := by decide +kernel
theorem dX3_tryCall_19 : decode cX3_tryCall 19 = .ok (.iload_n 2, 1) := by decide +kernel
theorem dX3_tryCall_20 : decode cX3_tryCall 20 = .ok (.invokevirtual 41, 3) := by decide +kernel
theorem dX3_tryCall_23 : decode cX3_tryCall 23 = .ok (.ifCond .ne 11, 3) := by decide +kernel
theorem dX3_tryCall_26 : decode cX3_tryCall 26 = .ok (.aload_n 1, 1) := by decide +kernel
theorem dX3_tryCall_27 : decode cX3_tryCall 27 = .ok (.iload_n 3, 1) := by decide +kernel
theorem dX3_tryCall_28 : decode cX3_tryCall 28 = .ok (.invokevirtual 104, 3) := by decide +kernel
theorem dX3_tryCall_31 : decode cX3_tryCall 31 = .ok (.ifCond .eq 6, 3) := by decide +kernel
theorem dX3_tryCall_34 : decode cX3_tryCall 34 = .ok (.bipush (-3), 2) := by decide +kernel
theorem dX3_tryCall_36 : decode cX3_tryCall 36 = .ok (.ireturn, 1) := by decide +kernel
theorem dX3_tryCall_37 : decode cX3_tryCall 37 = .ok (.aload_n 0, 1) := by decide +kernel
theorem dX3_tryCall_38 : decode cX3_tryCall 38 = .ok (.aload_n 1, 1) := by decide +kernel
theorem dX3_tryCall_39 : decode cX3_tryCall 39 = .ok (.iload_n 2, 1) := by decide +kernel
theorem dX3_tryCall_40 : decode cX3_tryCall 40 = .ok (.iload_n 3, 1) := by decide +kernel
theorem dX3_tryCall_41 : decode cX3_tryCall 41 = .ok (.invokevirtual 107, 3) := by decide +kernel
theorem dX3_tryCall_44 : decode cX3_tryCall 44 = .ok (.ireturn, 1) := by decide +kernel
set_option maxRecDepth 20000 in
theorem ggX3_reroute_X1_firstLifted : GoodIn wsX3_reroute wsX1_firstLifted := goodIn_r _ [8, 9, 10, 11, 12, 13, 7, 14, 15, 16, 17, 18, 19, 20, 95, 96, 97, 98, 99, 100, 101, 102, 103, 104, 105, 106, 107, 108, 109, 110, 111] (by decide +kernel) (by decide +kernel)
set_option maxRecDepth 20000 in
theorem gX3_reroute_X1_firstLifted : GoodIn wsX3_reroute (wsV RX3 110 RX1 yX1_firstLifted wsX1_firstLifted) := goodIn_app (goodIn_of _ (by decide +kernel)) ggX3_reroute_X1_firstLifted
set_option maxRecDepth 20000 in
theorem ggX3_reroute_X4_get : GoodIn wsX3_reroute wsX4_get := goodIn_r _ [19, 20, 111] (by decide +kernel) (by decide +kernel)
set_option maxRecDepth 20000 in
theorem gX3_reroute_X4_get : GoodIn wsX3_reroute (wsV RX3 47 RX4 yX4_get wsX4_get) := goodIn_app (goodIn_of _ (by decide +kernel)) ggX3_reroute_X4_get
set_option maxRecDepth 20000 in
theorem ggX3_reroute_X3_findWay : GoodIn wsX3_reroute wsX3_findWay := goodIn_r _ [26, 27, 28, 29, 30, 31, 32, 33, 7, 34, 35, 36, 37, 38, 39, 40, 41, 42, 43, 44, 15, 16, 17, 18, 19, 20, 45, 46, 47, 25, 48, 49, 50, 51, 52, 53, 54, 55, 56, 57, 58, 59, 60, 61, 62, 63, 64, 65, 66, 67, 68, 1, 21, 69, 70, 71, 72, 112, 113, 114, 115, 116, 95, 96, 97, 98, 99, 100, 101, 102, 103, 104, 105, 106, 107, 108, 109, 110, 111] (by decide +kernel) (by decide +kernel)
set_option maxRecDepth 20000 in
theorem gX3_reroute_X3_findWay : GoodIn wsX3_reroute (wsV RX3 107 RX3 yX3_findWay wsX3_findWay) := goodIn_app (goodIn_of _ (by decide +kernel)) ggX3_reroute_X3_findWay
set_option maxRecDepth 20000 in
theorem ggX3_reroute_X1_removeCall : GoodIn wsX3_reroute wsX1_removeCall := goodIn_r _ [76, 77, 78, 10, 79, 80, 81, 7, 82, 9, 57, 83, 15, 16, 17, 18, 19, 20, 84, 32, 33, 34, 35, 42, 43, 44, 85, 70, 71, 72, 95, 96, 97, 98, 99, 100, 101, 102, 103, 104, 105, 106, 107, 108, 109, 110, 111] (by decide +kernel) (by decide +kernel)
set_option maxRecDepth 20000 in
theorem gX3_reroute_X1_removeCall : GoodIn wsX3_reroute (wsV RX3 51 RX1 yX1_removeCall wsX1_removeCall) := goodIn_app (goodIn_of _ (by decide +kernel)) ggX3_reroute_X1_removeCall
set_option maxRecDepth 20000 in
theorem ggX3_reroute_X3_settle : GoodIn wsX3_reroute wsX3_settle := goodIn_r _ [89, 27, 68, 67, 30, 2, 21, 16, 17, 18, 19, 20, 90, 80, 81, 7, 82, 9, 57, 83, 78, 15, 84, 32, 33, 34, 35, 42, 43, 44, 85, 70, 71, 72, 91, 92, 93, 94, 112, 113, 114, 115, 116, 95, 96, 97, 98, 99, 100, 101, 102, 103, 104, 105, 106, 107, 108, 109, 110, 111] (by decide +kernel) (by decide +kernel)
set_option maxRecDepth 20000 in
theorem gX3_reroute_X3_settle : GoodIn wsX3_reroute (wsV RX3 33 RX3 yX3_settle wsX3_settle) := goodIn_app (goodIn_of _ (by decide +kernel)) ggX3_reroute_X3_settle
theorem dX3_reroute_0 : decode cX3_reroute 0 = .ok (.iconst 0, 1) := by decide +kernel
theorem dX3_reroute_1 : decode cX3_reroute 1 = .ok (.istore_n 2, 1) := by decide +kernel
theorem dX3_reroute_2 : decode cX3_reroute 2 = .ok (.iconst 0, 1) := by decide +kernel
theorem dX3_reroute_3 : decode cX3_reroute 3 = .ok (.istore_n 3, 1) := by decide +kernel
theorem dX3_reroute_4 : decode cX3_reroute 4 = .ok (.iload_n 3, 1) := by decide +kernel
theorem dX3_reroute_5 : decode cX3_reroute 5 = .ok (.bipush 48, 2) := by decide +kernel
theorem dX3_reroute_7 : decode cX3_reroute 7 = .ok (.if_icmp .ge 77, 3) := by decide +kernel
theorem dX3_reroute_10 : decode cX3_reroute 10 = .ok (.aload_n 1, 1) := by decide +kernel
theorem dX3_reroute_11 : decode cX3_reroute 11 = .ok (.invokevirtual 110, 3) := by decide +kernel
theorem dX3_reroute_14 : decode cX3_reroute 14 = .ok (.istore 4, 2) := by decide +kernel
theorem dX3_reroute_16 : decode cX3_reroute 16 = .ok (.iload 4, 2) := by decide +kernel
theorem dX3_reroute_18 : decode cX3_reroute 18 = .ok (.ifCond .ge 6, 3) := by decide +kernel
theorem dX3_reroute_21 : decode cX3_reroute 21 = .ok (.goto 63, 3) := by decide +kernel
theorem dX3_reroute_24 : decode cX3_reroute 24 = .ok (.aload_n 0, 1) := by decide +kernel
theorem dX3_reroute_25 : decode cX3_reroute 25 = .ok (.aload_n 1, 1) := by decide +kernel
theorem dX3_reroute_26 : decode cX3_reroute 26 = .ok (.iload 4, 2) := by decide +kernel
theorem dX3_reroute_28 : decode cX3_reroute 28 = .ok (.aload_n 1, 1) := by decide +kernel
theorem dX3_reroute_29 : decode cX3_reroute 29 = .ok (.getfield 113, 3) := by decide +kernel
theorem dX3_reroute_32 : decode cX3_reroute 32 = .ok (.iload 4, 2) := by decide +kernel
theorem dX3_reroute_34 : decode cX3_reroute 34 = .ok (.invokevirtual 47, 3) := by decide +kernel
theorem dX3_reroute_37 : decode cX3_reroute 37 = .ok (.invokevirtual 107, 3) := by decide +kernel
theorem dX3_reroute_40 : decode cX3_reroute 40 = .ok (.istore 5, 2) := by decide +kernel
theorem dX3_reroute_42 : decode cX3_reroute 42 = .ok (.iload 5, 2) := by decide +kernel
theorem dX3_reroute_44 : decode cX3_reroute 44 = .ok (.ifCond .ge 15, 3) := by decide +kernel
theorem dX3_reroute_47 : decode cX3_reroute 47 = .ok (.aload_n 1, 1) := by decide +kernel
theorem dX3_reroute_48 : decode cX3_reroute 48 = .ok (.iload 4, 2) := by decide +kernel
theorem dX3_reroute_50 : decode cX3_reroute 50 = .ok (.invokevirtual 51, 3) := by decide +kernel
theorem dX3_reroute_53 : decode cX3_reroute 53 = .ok (.iinc 2 1, 3) := by decide +kernel
theorem dX3_reroute_56 : decode cX3_reroute 56 = .ok (.goto 22, 3) := by decide +kernel
theorem dX3_reroute_59 : decode cX3_reroute 59 = .ok (.aload_n 0, 1) := by decide +kernel
theorem dX3_reroute_60 : decode cX3_reroute 60 = .ok (.aload_n 1, 1) := by decide +kernel
theorem dX3_reroute_61 : decode cX3_reroute 61 = .ok (.iload 4, 2) := by decide +kernel
theorem dX3_reroute_63 : decode cX3_reroute 63 = .ok (.iload 5, 2) := by decide +kernel
theorem dX3_reroute_65 : decode cX3_reroute 65 = .ok (.invokevirtual 33, 3) := by decide +kernel
theorem dX3_reroute_68 : decode cX3_reroute 68 = .ok (.aload_n 1, 1) := by decide +kernel
theorem dX3_reroute_69 : decode cX3_reroute 69 = .ok (.dup, 1) := by decide +kernel
theorem dX3_reroute_70 : decode cX3_reroute 70 = .ok (.getfield 87, 3) := by decide +kernel
theorem dX3_reroute_73 : decode cX3_reroute 73 = .ok (.iconst 1, 1) := by decide +kernel
theorem dX3_reroute_74 : decode cX3_reroute 74 = .ok (.iadd, 1) := by decide +kernel
theorem dX3_reroute_75 : decode cX3_reroute 75 = .ok (.putfield 87, 3) := by decide +kernel
theorem dX3_reroute_78 : decode cX3_reroute 78 = .ok (.iinc 3 1, 3) := by decide +kernel
theorem dX3_reroute_81 : decode cX3_reroute 81 = .ok (.goto (-77), 3) := by decide +kernel
theorem dX3_reroute_84 : decode cX3_reroute 84 = .ok (.aload_n 1, 1) := by decide +kernel
theorem dX3_reroute_85 : decode cX3_reroute 85 = .ok (.dup, 1) := by decide +kernel
theorem dX3_reroute_86 : decode cX3_reroute 86 = .ok (.getfield 116, 3) := by decide +kernel
theorem dX3_reroute_89 : decode cX3_reroute 89 = .ok (.iload_n 2, 1) := by decide +kernel
theorem dX3_reroute_90 : decode cX3_reroute 90 = .ok (.iadd, 1) := by decide +kernel
theorem dX3_reroute_91 : decode cX3_reroute 91 = .ok (.putfield 116, 3) := by decide +kernel
theorem dX3_reroute_94 : decode cX3_reroute 94 = .ok (.iload_n 2, 1) := by decide +kernel
theorem dX3_reroute_95 : decode cX3_reroute 95 = .ok (.ireturn, 1) := by decide +kernel
set_option maxRecDepth 20000 in
theorem ggX3_findWay_X1_boardOf : GoodIn wsX3_findWay wsX1_boardOf := goodIn_r _ [9, 10, 62, 63, 64, 65, 66, 67, 68, 69, 70, 71, 72, 73, 74, 75, 76, 77] (by decide +kernel) (by decide +kernel)
set_option maxRecDepth 20000 in
theorem gX3_findWay_X1_boardOf : GoodIn wsX3_findWay (wsV RX3 122 RX1 yX1_boardOf wsX1_boardOf) := goodIn_app (goodIn_of _ (by decide +kernel)) ggX3_findWay_X1_boardOf
set_option maxRecDepth 20000 in
theorem ggX3_findWay_X1_freeOnLinks : GoodIn wsX3_findWay wsX1_freeOnLinks := goodIn_r _ [14, 15, 16, 17, 18, 19, 20, 21, 22, 23, 24, 25, 62, 63, 64, 65, 66, 67, 68, 69, 70, 71, 72, 73, 74, 75, 76, 77, 78] (by decide +kernel) (by decide +kernel)
set_option maxRecDepth 20000 in
theorem gX3_findWay_X1_freeOnLinks : GoodIn wsX3_findWay (wsV RX3 128 RX1 yX1_freeOnLinks wsX1_freeOnLinks) := goodIn_app (goodIn_of _ (by decide +kernel)) ggX3_findWay_X1_freeOnLinks
set_option maxRecDepth 20000 in
theorem ggX3_findWay_X3_choose : GoodIn wsX3_findWay wsX3_choose := goodIn_r _ [30, 31, 32, 18, 33, 34, 35, 36, 8, 37, 38, 39, 17, 19, 20, 21, 22, 23, 24, 25, 62, 63, 64, 65, 66, 67, 68, 69, 70, 71, 72, 73, 74, 75, 76, 77, 78] (by decide +kernel) (by decide +kernel)
set_option maxRecDepth 20000 in
theorem gX3_findWay_X3_choose : GoodIn wsX3_findWay (wsV RX3 135 RX3 yX3_choose wsX3_choose) := goodIn_app (goodIn_of _ (by decide +kernel)) ggX3_findWay_X3_choose
set_option maxRecDepth 20000 in
theorem ggX3_findWay_X3_findPair : GoodIn wsX3_findWay wsX3_findPair := goodIn_r _ [43, 44, 1, 32, 18, 33, 45, 46, 47, 29, 48, 4, 49, 3, 2, 50, 51, 17, 19, 52, 21, 22, 23, 24, 25, 53, 54, 55, 56, 5, 6, 7, 8, 9, 10, 62, 63, 64, 65, 66, 67, 68, 69, 70, 71, 72, 73, 74, 75, 76, 77, 57, 58, 59, 60, 61, 78] (by decide +kernel) (by decide +kernel)
set_option maxRecDepth 20000 in
theorem gX3_findWay_X3_findPair : GoodIn wsX3_findWay (wsV RX3 139 RX3 yX3_findPair wsX3_findPair) := goodIn_app (goodIn_of _ (by decide +kernel)) ggX3_findWay_X3_findPair
theorem dX3_findWay_0 : decode cX3_findWay 0 = .ok (.aload_n 0, 1) := by decide +kernel
theorem dX3_findWay_1 : decode cX3_findWay 1 = .ok (.iconst 0, 1) := by decide +kernel
theorem dX3_findWay_2 : decode cX3_findWay 2 = .ok (.putfield 119, 3) := by decide +kernel
theorem dX3_findWay_5 : decode cX3_findWay 5 = .ok (.aload_n 1, 1) := by decide +kernel
theorem dX3_findWay_6 : decode cX3_findWay 6 = .ok (.iload_n 3, 1) := by decide +kernel
theorem dX3_findWay_7 : decode cX3_findWay 7 = .ok (.invokevirtual 122, 3) := by decide +kernel
theorem dX3_findWay_10 : decode cX3_findWay 10 = .ok (.istore 4, 2) := by decide +kernel
theorem dX3_findWay_12 : decode cX3_findWay 12 = .ok (.aload_n 1, 1) := by decide +kernel
theorem dX3_findWay_13 : decode cX3_findWay 13 = .ok (.aload_n 1, 1) := by decide +kernel
theorem dX3_findWay_14 : decode cX3_findWay 14 = .ok (.getfield 125, 3) := by decide +kernel
theorem dX3_findWay_17 : decode cX3_findWay 17 = .ok (.aload_n 1, 1) := by decide +kernel
theorem dX3_findWay_18 : decode cX3_findWay 18 = .ok (.iload_n 2, 1) := by decide +kernel
theorem dX3_findWay_19 : decode cX3_findWay 19 = .ok (.invokevirtual 122, 3) := by decide +kernel
theorem dX3_findWay_22 : decode cX3_findWay 22 = .ok (.invokevirtual 128, 3) := by decide +kernel
theorem dX3_findWay_25 : decode cX3_findWay 25 = .ok (.istore 5, 2) := by decide +kernel
theorem dX3_findWay_27 : decode cX3_findWay 27 = .ok (.aload_n 1, 1) := by decide +kernel
theorem dX3_findWay_28 : decode cX3_findWay 28 = .ok (.aload_n 1, 1) := by decide +kernel
theorem dX3_findWay_29 : decode cX3_findWay 29 = .ok (.getfield 132, 3) := by decide +kernel
theorem dX3_findWay_32 : decode cX3_findWay 32 = .ok (.iload 4, 2) := by decide +kernel
theorem dX3_findWay_34 : decode cX3_findWay 34 = .ok (.invokevirtual 128, 3) := by decide +kernel
theorem dX3_findWay_37 : decode cX3_findWay 37 = .ok (.istore 6, 2) := by decide +kernel
theorem dX3_findWay_39 : decode cX3_findWay 39 = .ok (.iload 5, 2) := by decide +kernel
theorem dX3_findWay_41 : decode cX3_findWay 41 = .ok (.iload 6, 2) := by decide +kernel
theorem dX3_findWay_43 : decode cX3_findWay 43 = .ok (.iand, 1) := by decide +kernel
theorem dX3_findWay_44 : decode cX3_findWay 44 = .ok (.ifCond .eq 14, 3) := by decide +kernel
theorem dX3_findWay_47 : decode cX3_findWay 47 = .ok (.aload_n 0, 1) := by decide +kernel
theorem dX3_findWay_48 : decode cX3_findWay 48 = .ok (.aload_n 1, 1) := by decide +kernel
theorem dX3_findWay_49 : decode cX3_findWay 49 = .ok (.iload 5, 2) := by decide +kernel
theorem dX3_findWay_51 : decode cX3_findWay 51 = .ok (.iload 6, 2) := by decide +kernel
theorem dX3_findWay_53 : decode cX3_findWay 53 = .ok (.iand, 1) := by decide +kernel
theorem dX3_findWay_54 : decode cX3_findWay 54 = .ok (.invokevirtual 135, 3) := by decide +kernel
theorem dX3_findWay_57 : decode cX3_findWay 57 = .ok (.ireturn, 1) := by decide +kernel
theorem dX3_findWay_58 : decode cX3_findWay 58 = .ok (.iload 5, 2) := by decide +kernel
theorem dX3_findWay_60 : decode cX3_findWay 60 = .ok (.ifCond .eq 8, 3) := by decide +kernel
theorem dX3_findWay_63 : decode cX3_findWay 63 = .ok (.iload 6, 2) := by decide +kernel
theorem dX3_findWay_65 : decode cX3_findWay 65 = .ok (.ifCond .ne 6, 3) := by decide +kernel
theorem dX3_findWay_68 : decode cX3_findWay 68 = .ok (.bipush (-4), 2) := by decide +kernel
theorem dX3_findWay_70 : decode cX3_findWay 70 = .ok (.ireturn, 1) := by decide +kernel
theorem dX3_findWay_71 : decode cX3_findWay 71 = .ok (.aload_n 0, 1) := by decide +kernel
theorem dX3_findWay_72 : decode cX3_findWay 72 = .ok (.aload_n 1, 1) := by decide +kernel
theorem dX3_findWay_73 : decode cX3_findWay 73 = .ok (.iload 5, 2) := by decide +kernel
theorem dX3_findWay_75 : decode cX3_findWay 75 = .ok (.iload 6, 2) := by decide +kernel
theorem dX3_findWay_77 : decode cX3_findWay 77 = .ok (.iload 4, 2) := by decide +kernel
theorem dX3_findWay_79 : decode cX3_findWay 79 = .ok (.invokevirtual 139, 3) := by decide +kernel
theorem dX3_findWay_82 : decode cX3_findWay 82 = .ok (.aload_n 0, 1) := by decide +kernel
theorem dX3_findWay_83 : decode cX3_findWay 83 = .ok (.getfield 143, 3) := by decide +kernel
theorem dX3_findWay_86 : decode cX3_findWay 86 = .ok (.ireturn, 1) := by decide +kernel
set_option maxRecDepth 20000 in
theorem ggX3_choose_X5_hasBit : GoodIn wsX3_choose wsX5_hasBit := goodIn_r _ [4] (by decide +kernel) (by decide +kernel)
set_option maxRecDepth 20000 in
theorem gX3_choose_X5_hasBit_n64 : GoodIn wsX3_choose (wsX5_hasBit) := ggX3_choose_X5_hasBit
set_option maxRecDepth 20000 in
theorem ggX3_choose_X1_loadOf : GoodIn wsX3_choose wsX1_loadOf := goodIn_r _ [9, 10, 11, 12, 3, 13, 14, 15, 16, 17, 18, 19, 20, 21, 22, 23, 24, 25, 26, 27, 28, 29, 30, 31, 32, 33, 34, 35, 36] (by decide +kernel) (by decide +kernel)
set_option maxRecDepth 20000 in
theorem gX3_choose_X1_loadOf : GoodIn wsX3_choose (wsV RX3 149 RX1 yX1_loadOf wsX1_loadOf) := goodIn_app (goodIn_of _ (by decide +kernel)) ggX3_choose_X1_loadOf
theorem dX3_choose_0 : decode cX3_choose 0 = .ok (.aload_n 1, 1) := by decide +kernel
theorem dX3_choose_1 : decode cX3_choose 1 = .ok (.getfield 146, 3) := by decide +kernel
theorem dX3_choose_4 : decode cX3_choose 4 = .ok (.iconst 1, 1) := by decide +kernel
theorem dX3_choose_5 : decode cX3_choose 5 = .ok (.if_icmp .ne 7, 3) := by decide +kernel
theorem dX3_choose_8 : decode cX3_choose 8 = .ok (.iconst 1, 1) := by decide +kernel
theorem dX3_choose_9 : decode cX3_choose 9 = .ok (.goto 16, 3) := by decide +kernel
theorem dX3_choose_12 : decode cX3_choose 12 = .ok (.aload_n 1, 1) := by decide +kernel
theorem dX3_choose_13 : decode cX3_choose 13 = .ok (.getfield 146, 3) := by decide +kernel
theorem dX3_choose_16 : decode cX3_choose 16 = .ok (.iconst 2, 1) := by decide +kernel
theorem dX3_choose_17 : decode cX3_choose 17 = .ok (.if_icmp .ne 7, 3) := by decide +kernel
theorem dX3_choose_20 : decode cX3_choose 20 = .ok (.iconst (-1), 1) := by decide +kernel
theorem dX3_choose_21 : decode cX3_choose 21 = .ok (.goto 4, 3) := by decide +kernel
theorem dX3_choose_24 : decode cX3_choose 24 = .ok (.iconst 0, 1) := by decide +kernel
theorem dX3_choose_25 : decode cX3_choose 25 = .ok (.istore_n 3, 1) := by decide +kernel
theorem dX3_choose_26 : decode cX3_choose 26 = .ok (.bipush (-6), 2) := by decide +kernel
theorem dX3_choose_28 : decode cX3_choose 28 = .ok (.istore 4, 2) := by decide +kernel
theorem dX3_choose_30 : decode cX3_choose 30 = .ok (.iconst 0, 1) := by decide +kernel
theorem dX3_choose_31 : decode cX3_choose 31 = .ok (.istore 5, 2) := by decide +kernel
theorem dX3_choose_33 : decode cX3_choose 33 = .ok (.iconst 0, 1) := by decide +kernel
theorem dX3_choose_34 : decode cX3_choose 34 = .ok (.istore 6, 2) := by decide +kernel
theorem dX3_choose_36 : decode cX3_choose 36 = .ok (.iload 6, 2) := by decide +kernel
theorem dX3_choose_38 : decode cX3_choose 38 = .ok (.bipush 8, 2) := by decide +kernel
theorem dX3_choose_40 : decode cX3_choose 40 = .ok (.if_icmp .ge 48, 3) := by decide +kernel
theorem dX3_choose_43 : decode cX3_choose 43 = .ok (.iload_n 2, 1) := by decide +kernel
theorem dX3_choose_44 : decode cX3_choose 44 = .ok (.iload 6, 2) := by decide +kernel
theorem dX3_choose_46 : decode cX3_choose 46 = .ok (.invokestatic 64, 3) := by decide +kernel
theorem dX3_choose_49 : decode cX3_choose 49 = .ok (.ifCond .eq 33, 3) := by decide +kernel
theorem dX3_choose_52 : decode cX3_choose 52 = .ok (.iload_n 3, 1) := by decide +kernel
theorem dX3_choose_53 : decode cX3_choose 53 = .ok (.aload_n 1, 1) := by decide +kernel
theorem dX3_choose_54 : decode cX3_choose 54 = .ok (.iload 6, 2) := by decide +kernel
theorem dX3_choose_56 : decode cX3_choose 56 = .ok (.invokevirtual 149, 3) := by decide +kernel
theorem dX3_choose_59 : decode cX3_choose 59 = .ok (.imul, 1) := by decide +kernel
theorem dX3_choose_60 : decode cX3_choose 60 = .ok (.istore 7, 2) := by decide +kernel
theorem dX3_choose_62 : decode cX3_choose 62 = .ok (.iload 4, 2) := by decide +kernel
theorem dX3_choose_64 : decode cX3_choose 64 = .ok (.ifCond .lt 10, 3) := by decide +kernel
theorem dX3_choose_67 : decode cX3_choose 67 = .ok (.iload 7, 2) := by decide +kernel
theorem dX3_choose_69 : decode cX3_choose 69 = .ok (.iload 5, 2) := by decide +kernel
theorem dX3_choose_71 : decode cX3_choose 71 = .ok (.if_icmp .le 11, 3) := by decide +kernel
theorem dX3_choose_74 : decode cX3_choose 74 = .ok (.iload 6, 2) := by decide +kernel
theorem dX3_choose_76 : decode cX3_choose 76 = .ok (.istore 4, 2) := by decide +kernel
theorem dX3_choose_78 : decode cX3_choose 78 = .ok (.iload 7, 2) := by decide +kernel
theorem dX3_choose_80 : decode cX3_choose 80 = .ok (.istore 5, 2) := by decide +kernel
theorem dX3_choose_82 : decode cX3_choose 82 = .ok (.iinc 6 1, 3) := by decide +kernel
theorem dX3_choose_85 : decode cX3_choose 85 = .ok (.goto (-49), 3) := by decide +kernel
theorem dX3_choose_88 : decode cX3_choose 88 = .ok (.iload 4, 2) := by decide +kernel
theorem dX3_choose_90 : decode cX3_choose 90 = .ok (.ireturn, 1) := by decide +kernel
set_option maxRecDepth 20000 in
theorem ggX3_findPair_X5_hasBit : GoodIn wsX3_findPair wsX5_hasBit := goodIn_r _ [5] (by decide +kernel) (by decide +kernel)
set_option maxRecDepth 20000 in
theorem gX3_findPair_X5_hasBit_n64 : GoodIn wsX3_findPair (wsX5_hasBit) := ggX3_findPair_X5_hasBit
set_option maxRecDepth 20000 in
theorem ggX3_findPair_X3_follow : GoodIn wsX3_findPair wsX3_follow := goodIn_r _ [10, 11, 12, 2, 13, 14, 15, 16, 17, 4, 18, 19, 20, 21, 22, 23, 24, 25, 26, 27, 28, 29, 30, 31, 32, 33, 34, 51, 52, 53, 54, 55, 35, 36, 37, 38, 39, 40, 41, 42, 43, 44, 45, 46, 47, 48, 49, 50, 56] (by decide +kernel) (by decide +kernel)
set_option maxRecDepth 20000 in
theorem gX3_findPair_X3_follow : GoodIn wsX3_findPair (wsV RX3 152 RX3 yX3_follow wsX3_follow) := goodIn_app (goodIn_of _ (by decide +kernel)) ggX3_findPair_X3_follow
theorem dX3_findPair_0 : decode cX3_findPair 0 = .ok (.bipush (-6), 2) := by decide +kernel
theorem dX3_findPair_2 : decode cX3_findPair 2 = .ok (.istore 5, 2) := by decide +kernel
theorem dX3_findPair_4 : decode cX3_findPair 4 = .ok (.bipush (-6), 2) := by decide +kernel
theorem dX3_findPair_6 : decode cX3_findPair 6 = .ok (.istore 6, 2) := by decide +kernel
theorem dX3_findPair_8 : decode cX3_findPair 8 = .ok (.iconst 0, 1) := by decide +kernel
theorem dX3_findPair_9 : decode cX3_findPair 9 = .ok (.istore 7, 2) := by decide +kernel
theorem dX3_findPair_11 : decode cX3_findPair 11 = .ok (.iconst 0, 1) := by decide +kernel
theorem dX3_findPair_12 : decode cX3_findPair 12 = .ok (.istore 8, 2) := by decide +kernel
theorem dX3_findPair_14 : decode cX3_findPair 14 = .ok (.iload 8, 2) := by decide +kernel
theorem dX3_findPair_16 : decode cX3_findPair 16 = .ok (.bipush 64, 2) := by decide +kernel
theorem dX3_findPair_18 : decode cX3_findPair 18 = .ok (.if_icmp .ge 88, 3) := by decide +kernel
theorem dX3_findPair_21 : decode cX3_findPair 21 = .ok (.iload 8, 2) := by decide +kernel
theorem dX3_findPair_23 : decode cX3_findPair 23 = .ok (.bipush 8, 2) := by decide +kernel
theorem dX3_findPair_25 : decode cX3_findPair 25 = .ok (.idiv, 1) := by decide +kernel
theorem dX3_findPair_26 : decode cX3_findPair 26 = .ok (.istore 9, 2) := by decide +kernel
theorem dX3_findPair_28 : decode cX3_findPair 28 = .ok (.iload 8, 2) := by decide +kernel
theorem dX3_findPair_30 : decode cX3_findPair 30 = .ok (.bipush 8, 2) := by decide +kernel
theorem dX3_findPair_32 : decode cX3_findPair 32 = .ok (.irem, 1) := by decide +kernel
theorem dX3_findPair_33 : decode cX3_findPair 33 = .ok (.istore 10, 2) := by decide +kernel
theorem dX3_findPair_35 : decode cX3_findPair 35 = .ok (.iload_n 2, 1) := by decide +kernel
theorem dX3_findPair_36 : decode cX3_findPair 36 = .ok (.iload 9, 2) := by decide +kernel
theorem dX3_findPair_38 : decode cX3_findPair 38 = .ok (.invokestatic 64, 3) := by decide +kernel
theorem dX3_findPair_41 : decode cX3_findPair 41 = .ok (.ifCond .eq 59, 3) := by decide +kernel
theorem dX3_findPair_44 : decode cX3_findPair 44 = .ok (.iload_n 3, 1) := by decide +kernel
theorem dX3_findPair_45 : decode cX3_findPair 45 = .ok (.iload 10, 2) := by decide +kernel
theorem dX3_findPair_47 : decode cX3_findPair 47 = .ok (.invokestatic 64, 3) := by decide +kernel
theorem dX3_findPair_50 : decode cX3_findPair 50 = .ok (.ifCond .eq 50, 3) := by decide +kernel
theorem dX3_findPair_53 : decode cX3_findPair 53 = .ok (.aload_n 0, 1) := by decide +kernel
theorem dX3_findPair_54 : decode cX3_findPair 54 = .ok (.aload_n 1, 1) := by decide +kernel
theorem dX3_findPair_55 : decode cX3_findPair 55 = .ok (.iload 9, 2) := by decide +kernel
theorem dX3_findPair_57 : decode cX3_findPair 57 = .ok (.iload 10, 2) := by decide +kernel
theorem dX3_findPair_59 : decode cX3_findPair 59 = .ok (.iload 4, 2) := by decide +kernel
theorem dX3_findPair_61 : decode cX3_findPair 61 = .ok (.invokevirtual 152, 3) := by decide +kernel
theorem dX3_findPair_64 : decode cX3_findPair 64 = .ok (.iload 5, 2) := by decide +kernel
theorem dX3_findPair_66 : decode cX3_findPair 66 = .ok (.ifCond .lt 20, 3) := by decide +kernel
theorem dX3_findPair_69 : decode cX3_findPair 69 = .ok (.aload_n 1, 1) := by decide +kernel
theorem dX3_findPair_70 : decode cX3_findPair 70 = .ok (.getfield 155, 3) := by decide +kernel
theorem dX3_findPair_73 : decode cX3_findPair 73 = .ok (.iconst 1, 1) := by decide +kernel
theorem dX3_findPair_74 : decode cX3_findPair 74 = .ok (.if_icmp .ne 26, 3) := by decide +kernel
theorem dX3_findPair_77 : decode cX3_findPair 77 = .ok (.aload_n 0, 1) := by decide +kernel
theorem dX3_findPair_78 : decode cX3_findPair 78 = .ok (.getfield 119, 3) := by decide +kernel
theorem dX3_findPair_81 : decode cX3_findPair 81 = .ok (.iload 7, 2) := by decide +kernel
theorem dX3_findPair_83 : decode cX3_findPair 83 = .ok (.if_icmp .ge 17, 3) := by decide +kernel
theorem dX3_findPair_86 : decode cX3_findPair 86 = .ok (.iload 9, 2) := by decide +kernel
theorem dX3_findPair_88 : decode cX3_findPair 88 = .ok (.istore 5, 2) := by decide +kernel
theorem dX3_findPair_90 : decode cX3_findPair 90 = .ok (.iload 10, 2) := by decide +kernel
theorem dX3_findPair_92 : decode cX3_findPair 92 = .ok (.istore 6, 2) := by decide +kernel
theorem dX3_findPair_94 : decode cX3_findPair 94 = .ok (.aload_n 0, 1) := by decide +kernel
theorem dX3_findPair_95 : decode cX3_findPair 95 = .ok (.getfield 119, 3) := by decide +kernel
theorem dX3_findPair_98 : decode cX3_findPair 98 = .ok (.istore 7, 2) := by decide +kernel
theorem dX3_findPair_100 : decode cX3_findPair 100 = .ok (.iinc 8 1, 3) := by decide +kernel
theorem dX3_findPair_103 : decode cX3_findPair 103 = .ok (.goto (-89), 3) := by decide +kernel
theorem dX3_findPair_106 : decode cX3_findPair 106 = .ok (.aload_n 0, 1) := by decide +kernel
theorem dX3_findPair_107 : decode cX3_findPair 107 = .ok (.aload_n 1, 1) := by decide +kernel
theorem dX3_findPair_108 : decode cX3_findPair 108 = .ok (.iload 5, 2) := by decide +kernel
theorem dX3_findPair_110 : decode cX3_findPair 110 = .ok (.iload 6, 2) := by decide +kernel
theorem dX3_findPair_112 : decode cX3_findPair 112 = .ok (.iload 4, 2) := by decide +kernel
theorem dX3_findPair_114 : decode cX3_findPair 114 = .ok (.invokevirtual 152, 3) := by decide +kernel
theorem dX3_findPair_117 : decode cX3_findPair 117 = .ok (.return_, 1) := by decide +kernel
set_option maxRecDepth 20000 in
theorem ggX3_follow_X5_link : GoodIn wsX3_follow wsX5_link := goodIn_r _ [10] (by decide +kernel) (by decide +kernel)
set_option maxRecDepth 20000 in
theorem gX3_follow_X5_link_n161 : GoodIn wsX3_follow (wsX5_link) := ggX3_follow_X5_link
set_option maxRecDepth 20000 in
theorem ggX3_follow_X4_get : GoodIn wsX3_follow wsX4_get := goodIn_r _ [15, 16, 48] (by decide +kernel) (by decide +kernel)
set_option maxRecDepth 20000 in
theorem gX3_follow_X4_get : GoodIn wsX3_follow (wsV RX3 47 RX4 yX4_get wsX4_get) := goodIn_app (goodIn_of _ (by decide +kernel)) ggX3_follow_X4_get
set_option maxRecDepth 20000 in
theorem ggX3_follow_X4_set : GoodIn wsX3_follow wsX4_set := goodIn_r _ [20, 16, 48] (by decide +kernel) (by decide +kernel)
set_option maxRecDepth 20000 in
theorem gX3_follow_X4_set : GoodIn wsX3_follow (wsV RX3 164 RX4 yX4_set wsX4_set) := goodIn_app (goodIn_of _ (by decide +kernel)) ggX3_follow_X4_set
set_option maxRecDepth 20000 in
theorem ggX3_follow_X1_boardOf : GoodIn wsX3_follow wsX1_boardOf := goodIn_r _ [25, 26, 32, 33, 34, 35, 36, 37, 38, 39, 40, 41, 42, 43, 44, 45, 46, 47] (by decide +kernel) (by decide +kernel)
set_option maxRecDepth 20000 in
theorem gX3_follow_X1_boardOf : GoodIn wsX3_follow (wsV RX3 122 RX1 yX1_boardOf wsX1_boardOf) := goodIn_app (goodIn_of _ (by decide +kernel)) ggX3_follow_X1_boardOf
theorem dX3_follow_0 : decode cX3_follow 0 = .ok (.aload_n 0, 1) := by decide +kernel
theorem dX3_follow_1 : decode cX3_follow 1 = .ok (.iload_n 2, 1) := by decide +kernel
theorem dX3_follow_2 : decode cX3_follow 2 = .ok (.putfield 143, 3) := by decide +kernel
theorem dX3_follow_5 : decode cX3_follow 5 = .ok (.aload_n 0, 1) := by decide +kernel
theorem dX3_follow_6 : decode cX3_follow 6 = .ok (.iload_n 3, 1) := by decide +kernel
theorem dX3_follow_7 : decode cX3_follow 7 = .ok (.putfield 158, 3) := by decide +kernel
theorem dX3_follow_10 : decode cX3_follow 10 = .ok (.aload_n 0, 1) := by decide +kernel
theorem dX3_follow_11 : decode cX3_follow 11 = .ok (.iconst 0, 1) := by decide +kernel
theorem dX3_follow_12 : decode cX3_follow 12 = .ok (.putfield 119, 3) := by decide +kernel
theorem dX3_follow_15 : decode cX3_follow 15 = .ok (.iload 4, 2) := by decide +kernel
theorem dX3_follow_17 : decode cX3_follow 17 = .ok (.istore 5, 2) := by decide +kernel
theorem dX3_follow_19 : decode cX3_follow 19 = .ok (.iconst 0, 1) := by decide +kernel
theorem dX3_follow_20 : decode cX3_follow 20 = .ok (.istore 6, 2) := by decide +kernel
theorem dX3_follow_22 : decode cX3_follow 22 = .ok (.iload 6, 2) := by decide +kernel
theorem dX3_follow_24 : decode cX3_follow 24 = .ok (.bipush 16, 2) := by decide +kernel
theorem dX3_follow_26 : decode cX3_follow 26 = .ok (.if_icmp .ge 113, 3) := by decide +kernel
theorem dX3_follow_29 : decode cX3_follow 29 = .ok (.iload 6, 2) := by decide +kernel
theorem dX3_follow_31 : decode cX3_follow 31 = .ok (.iconst 2, 1) := by decide +kernel
theorem dX3_follow_32 : decode cX3_follow 32 = .ok (.irem, 1) := by decide +kernel
theorem dX3_follow_33 : decode cX3_follow 33 = .ok (.ifCond .ne 7, 3) := by decide +kernel
theorem dX3_follow_36 : decode cX3_follow 36 = .ok (.iconst 1, 1) := by decide +kernel
theorem dX3_follow_37 : decode cX3_follow 37 = .ok (.goto 4, 3) := by decide +kernel
theorem dX3_follow_40 : decode cX3_follow 40 = .ok (.iconst 0, 1) := by decide +kernel
theorem dX3_follow_41 : decode cX3_follow 41 = .ok (.istore 7, 2) := by decide +kernel
theorem dX3_follow_43 : decode cX3_follow 43 = .ok (.iload 7, 2) := by decide +kernel
theorem dX3_follow_45 : decode cX3_follow 45 = .ok (.ifCond .eq 19, 3) := by decide +kernel
theorem dX3_follow_48 : decode cX3_follow 48 = .ok (.aload_n 1, 1) := by decide +kernel
theorem dX3_follow_49 : decode cX3_follow 49 = .ok (.getfield 132, 3) := by decide +kernel
theorem dX3_follow_52 : decode cX3_follow 52 = .ok (.iload 5, 2) := by decide +kernel
theorem dX3_follow_54 : decode cX3_follow 54 = .ok (.iload_n 2, 1) := by decide +kernel
theorem dX3_follow_55 : decode cX3_follow 55 = .ok (.invokestatic 161, 3) := by decide +kernel
theorem dX3_follow_58 : decode cX3_follow 58 = .ok (.invokevirtual 47, 3) := by decide +kernel
theorem dX3_follow_61 : decode cX3_follow 61 = .ok (.goto 16, 3) := by decide +kernel
theorem dX3_follow_64 : decode cX3_follow 64 = .ok (.aload_n 1, 1) := by decide +kernel
theorem dX3_follow_65 : decode cX3_follow 65 = .ok (.getfield 125, 3) := by decide +kernel
theorem dX3_follow_68 : decode cX3_follow 68 = .ok (.iload 5, 2) := by decide +kernel
theorem dX3_follow_70 : decode cX3_follow 70 = .ok (.iload_n 3, 1) := by decide +kernel
theorem dX3_follow_71 : decode cX3_follow 71 = .ok (.invokestatic 161, 3) := by decide +kernel
theorem dX3_follow_74 : decode cX3_follow 74 = .ok (.invokevirtual 47, 3) := by decide +kernel
theorem dX3_follow_77 : decode cX3_follow 77 = .ok (.istore 8, 2) := by decide +kernel
theorem dX3_follow_79 : decode cX3_follow 79 = .ok (.iload 8, 2) := by decide +kernel
theorem dX3_follow_81 : decode cX3_follow 81 = .ok (.ifCond .ge 6, 3) := by decide +kernel
theorem dX3_follow_84 : decode cX3_follow 84 = .ok (.goto 55, 3) := by decide +kernel
theorem dX3_follow_87 : decode cX3_follow 87 = .ok (.aload_n 0, 1) := by decide +kernel
theorem dX3_follow_88 : decode cX3_follow 88 = .ok (.getfield 14, 3) := by decide +kernel
theorem dX3_follow_91 : decode cX3_follow 91 = .ok (.iload 6, 2) := by decide +kernel
theorem dX3_follow_93 : decode cX3_follow 93 = .ok (.iload 8, 2) := by decide +kernel
theorem dX3_follow_95 : decode cX3_follow 95 = .ok (.invokevirtual 164, 3) := by decide +kernel
theorem dX3_follow_98 : decode cX3_follow 98 = .ok (.aload_n 0, 1) := by decide +kernel
theorem dX3_follow_99 : decode cX3_follow 99 = .ok (.dup, 1) := by decide +kernel
theorem dX3_follow_100 : decode cX3_follow 100 = .ok (.getfield 119, 3) := by decide +kernel
theorem dX3_follow_103 : decode cX3_follow 103 = .ok (.iconst 1, 1) := by decide +kernel
theorem dX3_follow_104 : decode cX3_follow 104 = .ok (.iadd, 1) := by decide +kernel
theorem dX3_follow_105 : decode cX3_follow 105 = .ok (.putfield 119, 3) := by decide +kernel
theorem dX3_follow_108 : decode cX3_follow 108 = .ok (.aload_n 1, 1) := by decide +kernel
theorem dX3_follow_109 : decode cX3_follow 109 = .ok (.iload 7, 2) := by decide +kernel
theorem dX3_follow_111 : decode cX3_follow 111 = .ok (.ifCond .eq 8, 3) := by decide +kernel
theorem dX3_follow_114 : decode cX3_follow 114 = .ok (.iload 8, 2) := by decide +kernel
theorem dX3_follow_116 : decode cX3_follow 116 = .ok (.goto 12, 3) := by decide +kernel
theorem dX3_follow_119 : decode cX3_follow 119 = .ok (.aload_n 1, 1) := by decide +kernel
theorem dX3_follow_120 : decode cX3_follow 120 = .ok (.getfield 113, 3) := by decide +kernel
theorem dX3_follow_123 : decode cX3_follow 123 = .ok (.iload 8, 2) := by decide +kernel
theorem dX3_follow_125 : decode cX3_follow 125 = .ok (.invokevirtual 47, 3) := by decide +kernel
theorem dX3_follow_128 : decode cX3_follow 128 = .ok (.invokevirtual 122, 3) := by decide +kernel
theorem dX3_follow_131 : decode cX3_follow 131 = .ok (.istore 5, 2) := by decide +kernel
theorem dX3_follow_133 : decode cX3_follow 133 = .ok (.iinc 6 1, 3) := by decide +kernel
theorem dX3_follow_136 : decode cX3_follow 136 = .ok (.goto (-114), 3) := by decide +kernel
theorem dX3_follow_139 : decode cX3_follow 139 = .ok (.return_, 1) := by decide +kernel
set_option maxRecDepth 20000 in
theorem ggX3_settle_X4_get : GoodIn wsX3_settle wsX4_get := goodIn_r _ [10, 11, 59] (by decide +kernel) (by decide +kernel)
set_option maxRecDepth 20000 in
theorem gX3_settle_X4_get : GoodIn wsX3_settle (wsV RX3 47 RX4 yX4_get wsX4_get) := goodIn_app (goodIn_of _ (by decide +kernel)) ggX3_settle_X4_get
set_option maxRecDepth 20000 in
theorem ggX3_settle_X1_liftCall : GoodIn wsX3_settle wsX1_liftCall := goodIn_r _ [16, 17, 18, 19, 20, 21, 7, 8, 9, 10, 11, 22, 23, 24, 15, 25, 26, 27, 28, 29, 30, 31, 32, 33, 43, 44, 45, 46, 47, 48, 49, 50, 51, 52, 53, 54, 55, 56, 57, 58, 59] (by decide +kernel) (by decide +kernel)
set_option maxRecDepth 20000 in
theorem gX3_settle_X1_liftCall : GoodIn wsX3_settle (wsV RX3 71 RX1 yX1_liftCall wsX1_liftCall) := goodIn_app (goodIn_of _ (by decide +kernel)) ggX3_settle_X1_liftCall
set_option maxRecDepth 20000 in
theorem ggX3_settle_X1_carryCall : GoodIn wsX3_settle wsX1_carryCall := goodIn_r _ [37, 17, 18, 19, 20, 30, 31, 32, 9, 33, 11, 22, 23, 24, 15, 25, 26, 27, 28, 29, 21, 7, 8, 10, 43, 44, 45, 46, 47, 48, 49, 50, 51, 52, 53, 54, 55, 56, 57, 58, 59] (by decide +kernel) (by decide +kernel)
set_option maxRecDepth 20000 in
theorem gX3_settle_X1_carryCall : GoodIn wsX3_settle (wsV RX3 167 RX1 yX1_carryCall wsX1_carryCall) := goodIn_app (goodIn_of _ (by decide +kernel)) ggX3_settle_X1_carryCall
theorem dX3_settle_0 : decode cX3_settle 0 = .ok (.iconst 0, 1) := by decide +kernel
theorem dX3_settle_1 : decode cX3_settle 1 = .ok (.istore 4, 2) := by decide +kernel
theorem dX3_settle_3 : decode cX3_settle 3 = .ok (.iload 4, 2) := by decide +kernel
theorem dX3_settle_5 : decode cX3_settle 5 = .ok (.aload_n 0, 1) := by decide +kernel
theorem dX3_settle_6 : decode cX3_settle 6 = .ok (.getfield 119, 3) := by decide +kernel
theorem dX3_settle_9 : decode cX3_settle 9 = .ok (.if_icmp .ge 22, 3) := by decide +kernel
theorem dX3_settle_12 : decode cX3_settle 12 = .ok (.aload_n 1, 1) := by decide +kernel
theorem dX3_settle_13 : decode cX3_settle 13 = .ok (.aload_n 0, 1) := by decide +kernel
theorem dX3_settle_14 : decode cX3_settle 14 = .ok (.getfield 14, 3) := by decide +kernel
theorem dX3_settle_17 : decode cX3_settle 17 = .ok (.iload 4, 2) := by decide +kernel
theorem dX3_settle_19 : decode cX3_settle 19 = .ok (.invokevirtual 47, 3) := by decide +kernel
theorem dX3_settle_22 : decode cX3_settle 22 = .ok (.invokevirtual 71, 3) := by decide +kernel
theorem dX3_settle_25 : decode cX3_settle 25 = .ok (.iinc 4 1, 3) := by decide +kernel
theorem dX3_settle_28 : decode cX3_settle 28 = .ok (.goto (-25), 3) := by decide +kernel
theorem dX3_settle_31 : decode cX3_settle 31 = .ok (.iconst 0, 1) := by decide +kernel
theorem dX3_settle_32 : decode cX3_settle 32 = .ok (.istore 4, 2) := by decide +kernel
theorem dX3_settle_34 : decode cX3_settle 34 = .ok (.iload 4, 2) := by decide +kernel
theorem dX3_settle_36 : decode cX3_settle 36 = .ok (.aload_n 0, 1) := by decide +kernel
theorem dX3_settle_37 : decode cX3_settle 37 = .ok (.getfield 119, 3) := by decide +kernel
theorem dX3_settle_40 : decode cX3_settle 40 = .ok (.if_icmp .ge 40, 3) := by decide +kernel
theorem dX3_settle_43 : decode cX3_settle 43 = .ok (.aload_n 1, 1) := by decide +kernel
theorem dX3_settle_44 : decode cX3_settle 44 = .ok (.aload_n 0, 1) := by decide +kernel
theorem dX3_settle_45 : decode cX3_settle 45 = .ok (.getfield 14, 3) := by decide +kernel
theorem dX3_settle_48 : decode cX3_settle 48 = .ok (.iload 4, 2) := by decide +kernel
theorem dX3_settle_50 : decode cX3_settle 50 = .ok (.invokevirtual 47, 3) := by decide +kernel
theorem dX3_settle_53 : decode cX3_settle 53 = .ok (.iload 4, 2) := by decide +kernel
theorem dX3_settle_55 : decode cX3_settle 55 = .ok (.iconst 2, 1) := by decide +kernel
theorem dX3_settle_56 : decode cX3_settle 56 = .ok (.irem, 1) := by decide +kernel
theorem dX3_settle_57 : decode cX3_settle 57 = .ok (.ifCond .ne 10, 3) := by decide +kernel
theorem dX3_settle_60 : decode cX3_settle 60 = .ok (.aload_n 0, 1) := by decide +kernel
theorem dX3_settle_61 : decode cX3_settle 61 = .ok (.getfield 158, 3) := by decide +kernel
theorem dX3_settle_64 : decode cX3_settle 64 = .ok (.goto 7, 3) := by decide +kernel
theorem dX3_settle_67 : decode cX3_settle 67 = .ok (.aload_n 0, 1) := by decide +kernel
theorem dX3_settle_68 : decode cX3_settle 68 = .ok (.getfield 143, 3) := by decide +kernel
theorem dX3_settle_71 : decode cX3_settle 71 = .ok (.invokevirtual 167, 3) := by decide +kernel
theorem dX3_settle_74 : decode cX3_settle 74 = .ok (.iinc 4 1, 3) := by decide +kernel
theorem dX3_settle_77 : decode cX3_settle 77 = .ok (.goto (-43), 3) := by decide +kernel
theorem dX3_settle_80 : decode cX3_settle 80 = .ok (.aload_n 1, 1) := by decide +kernel
theorem dX3_settle_81 : decode cX3_settle 81 = .ok (.dup, 1) := by decide +kernel
theorem dX3_settle_82 : decode cX3_settle 82 = .ok (.getfield 87, 3) := by decide +kernel
theorem dX3_settle_85 : decode cX3_settle 85 = .ok (.aload_n 0, 1) := by decide +kernel
theorem dX3_settle_86 : decode cX3_settle 86 = .ok (.getfield 119, 3) := by decide +kernel
theorem dX3_settle_89 : decode cX3_settle 89 = .ok (.iadd, 1) := by decide +kernel
theorem dX3_settle_90 : decode cX3_settle 90 = .ok (.putfield 87, 3) := by decide +kernel
theorem dX3_settle_93 : decode cX3_settle 93 = .ok (.aload_n 1, 1) := by decide +kernel
theorem dX3_settle_94 : decode cX3_settle 94 = .ok (.iload_n 2, 1) := by decide +kernel
theorem dX3_settle_95 : decode cX3_settle 95 = .ok (.iload_n 3, 1) := by decide +kernel
theorem dX3_settle_96 : decode cX3_settle 96 = .ok (.invokevirtual 167, 3) := by decide +kernel
theorem dX3_settle_99 : decode cX3_settle 99 = .ok (.return_, 1) := by decide +kernel
set_option maxRecDepth 20000 in
theorem ggX3_countChanged_X4_get : GoodIn wsX3_countChanged wsX4_get := goodIn_r _ [7, 8, 30] (by decide +kernel) (by decide +kernel)
set_option maxRecDepth 20000 in
theorem gX3_countChanged_X4_get : GoodIn wsX3_countChanged (wsV RX3 47 RX4 yX4_get wsX4_get) := goodIn_app (goodIn_of _ (by decide +kernel)) ggX3_countChanged_X4_get
theorem dX3_countChanged_0 : decode cX3_countChanged 0 = .ok (.iconst 0, 1) := by decide +kernel
theorem dX3_countChanged_1 : decode cX3_countChanged 1 = .ok (.istore_n 2, 1) := by decide +kernel
theorem dX3_countChanged_2 : decode cX3_countChanged 2 = .ok (.iconst 0, 1) := by decide +kernel
theorem dX3_countChanged_3 : decode cX3_countChanged 3 = .ok (.istore_n 3, 1) := by decide +kernel
theorem dX3_countChanged_4 : decode cX3_countChanged 4 = .ok (.iload_n 3, 1) := by decide +kernel
theorem dX3_countChanged_5 : decode cX3_countChanged 5 = .ok (.bipush 48, 2) := by decide +kernel
theorem dX3_countChanged_7 : decode cX3_countChanged 7 = .ok (.if_icmp .ge 36, 3) := by decide +kernel
theorem dX3_countChanged_10 : decode cX3_countChanged 10 = .ok (.iload_n 2, 1) := by decide +kernel
theorem dX3_countChanged_11 : decode cX3_countChanged 11 = .ok (.aload_n 1, 1) := by decide +kernel
theorem dX3_countChanged_12 : decode cX3_countChanged 12 = .ok (.getfield 68, 3) := by decide +kernel
theorem dX3_countChanged_15 : decode cX3_countChanged 15 = .ok (.iload_n 3, 1) := by decide +kernel
theorem dX3_countChanged_16 : decode cX3_countChanged 16 = .ok (.invokevirtual 47, 3) := by decide +kernel
theorem dX3_countChanged_19 : decode cX3_countChanged 19 = .ok (.aload_n 0, 1) := by decide +kernel
theorem dX3_countChanged_20 : decode cX3_countChanged 20 = .ok (.getfield 20, 3) := by decide +kernel
theorem dX3_countChanged_23 : decode cX3_countChanged 23 = .ok (.iload_n 3, 1) := by decide +kernel
theorem dX3_countChanged_24 : decode cX3_countChanged 24 = .ok (.invokevirtual 47, 3) := by decide +kernel
theorem dX3_countChanged_27 : decode cX3_countChanged 27 = .ok (.if_icmp .eq 7, 3) := by decide +kernel
theorem dX3_countChanged_30 : decode cX3_countChanged 30 = .ok (.iconst 1, 1) := by decide +kernel
theorem dX3_countChanged_31 : decode cX3_countChanged 31 = .ok (.goto 4, 3) := by decide +kernel
theorem dX3_countChanged_34 : decode cX3_countChanged 34 = .ok (.iconst 0, 1) := by decide +kernel
theorem dX3_countChanged_35 : decode cX3_countChanged 35 = .ok (.iadd, 1) := by decide +kernel
theorem dX3_countChanged_36 : decode cX3_countChanged 36 = .ok (.istore_n 2, 1) := by decide +kernel
theorem dX3_countChanged_37 : decode cX3_countChanged 37 = .ok (.iinc 3 1, 3) := by decide +kernel
theorem dX3_countChanged_40 : decode cX3_countChanged 40 = .ok (.goto (-36), 3) := by decide +kernel
theorem dX3_countChanged_43 : decode cX3_countChanged 43 = .ok (.iload_n 2, 1) := by decide +kernel
theorem dX3_countChanged_44 : decode cX3_countChanged 44 = .ok (.ireturn, 1) := by decide +kernel
set_option maxRecDepth 20000 in
theorem ggX3_lowestBits_X5_hasBit : GoodIn wsX3_lowestBits wsX5_hasBit := goodIn_r _ [3] (by decide +kernel) (by decide +kernel)
set_option maxRecDepth 20000 in
theorem gX3_lowestBits_X5_hasBit_n64 : GoodIn wsX3_lowestBits (wsX5_hasBit) := ggX3_lowestBits_X5_hasBit
theorem dX3_lowestBits_0 : decode cX3_lowestBits 0 = .ok (.iconst 0, 1) := by decide +kernel
theorem dX3_lowestBits_1 : decode cX3_lowestBits 1 = .ok (.istore_n 2, 1) := by decide +kernel
theorem dX3_lowestBits_2 : decode cX3_lowestBits 2 = .ok (.iconst 0, 1) := by decide +kernel
theorem dX3_lowestBits_3 : decode cX3_lowestBits 3 = .ok (.istore_n 3, 1) := by decide +kernel
theorem dX3_lowestBits_4 : decode cX3_lowestBits 4 = .ok (.iconst 0, 1) := by decide +kernel
theorem dX3_lowestBits_5 : decode cX3_lowestBits 5 = .ok (.istore 4, 2) := by decide +kernel
theorem dX3_lowestBits_7 : decode cX3_lowestBits 7 = .ok (.iload 4, 2) := by decide +kernel
theorem dX3_lowestBits_9 : decode cX3_lowestBits 9 = .ok (.bipush 8, 2) := by decide +kernel
theorem dX3_lowestBits_11 : decode cX3_lowestBits 11 = .ok (.if_icmp .ge 33, 3) := by decide +kernel
theorem dX3_lowestBits_14 : decode cX3_lowestBits 14 = .ok (.iload_n 3, 1) := by decide +kernel
theorem dX3_lowestBits_15 : decode cX3_lowestBits 15 = .ok (.iload_n 1, 1) := by decide +kernel
theorem dX3_lowestBits_16 : decode cX3_lowestBits 16 = .ok (.if_icmp .ge 28, 3) := by decide +kernel
theorem dX3_lowestBits_19 : decode cX3_lowestBits 19 = .ok (.iload_n 0, 1) := by decide +kernel
theorem dX3_lowestBits_20 : decode cX3_lowestBits 20 = .ok (.iload 4, 2) := by decide +kernel
theorem dX3_lowestBits_22 : decode cX3_lowestBits 22 = .ok (.invokestatic 64, 3) := by decide +kernel
theorem dX3_lowestBits_25 : decode cX3_lowestBits 25 = .ok (.ifCond .eq 13, 3) := by decide +kernel
theorem dX3_lowestBits_28 : decode cX3_lowestBits 28 = .ok (.iload_n 2, 1) := by decide +kernel
theorem dX3_lowestBits_29 : decode cX3_lowestBits 29 = .ok (.iconst 1, 1) := by decide +kernel
theorem dX3_lowestBits_30 : decode cX3_lowestBits 30 = .ok (.iload 4, 2) := by decide +kernel
theorem dX3_lowestBits_32 : decode cX3_lowestBits 32 = .ok (.ishl, 1) := by decide +kernel
theorem dX3_lowestBits_33 : decode cX3_lowestBits 33 = .ok (.ior, 1) := by decide +kernel
theorem dX3_lowestBits_34 : decode cX3_lowestBits 34 = .ok (.istore_n 2, 1) := by decide +kernel
theorem dX3_lowestBits_35 : decode cX3_lowestBits 35 = .ok (.iinc 3 1, 3) := by decide +kernel
theorem dX3_lowestBits_38 : decode cX3_lowestBits 38 = .ok (.iinc 4 1, 3) := by decide +kernel
theorem dX3_lowestBits_41 : decode cX3_lowestBits 41 = .ok (.goto (-34), 3) := by decide +kernel
theorem dX3_lowestBits_44 : decode cX3_lowestBits 44 = .ok (.iload_n 2, 1) := by decide +kernel
theorem dX3_lowestBits_45 : decode cX3_lowestBits 45 = .ok (.ireturn, 1) := by decide +kernel
