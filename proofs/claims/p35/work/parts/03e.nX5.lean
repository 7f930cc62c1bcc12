set_option maxRecDepth 20000 in
theorem ggX5_init_X1_init : GoodIn wsX5_init wsX1_init := goodIn_r _ [26, 27, 2, 3, 28, 29, 30, 31, 32, 33, 34, 35, 36, 37, 38, 39, 40, 41, 42, 43, 44, 45, 46, 47, 48, 49, 50, 51, 52, 53, 54, 77, 78, 79, 80, 81, 82, 83, 84, 85, 86, 87, 88, 89, 90, 91, 92, 115] (by decide +kernel) (by decide +kernel)
set_option maxRecDepth 20000 in
theorem gX5_init_X1_init : GoodIn wsX5_init (wsX1_init) := ggX5_init_X1_init
set_option maxRecDepth 20000 in
theorem ggX5_init_X3_init : GoodIn wsX5_init wsX3_init := goodIn_r _ [57, 58, 2, 3, 59, 33, 34, 60, 61, 62, 42, 43, 44, 45, 46, 47, 48, 49, 50, 51, 52, 53, 54, 115, 101, 102, 103, 104, 105] (by decide +kernel) (by decide +kernel)
set_option maxRecDepth 20000 in
theorem gX5_init_X3_init : GoodIn wsX5_init (wsX3_init) := ggX5_init_X3_init
set_option maxRecDepth 20000 in
theorem ggX5_init_X0_init : GoodIn wsX5_init wsX0_init := goodIn_r _ [65, 66, 2, 3, 67, 68, 5, 6, 69, 25, 26, 27, 28, 29, 30, 31, 32, 33, 34, 35, 36, 37, 38, 39, 40, 41, 42, 43, 44, 45, 46, 47, 48, 49, 50, 51, 52, 53, 54, 106, 107, 108, 77, 78, 79, 80, 81, 82, 83, 84, 85, 86, 87, 88, 89, 90, 91, 92, 115] (by decide +kernel) (by decide +kernel)
set_option maxRecDepth 20000 in
theorem gX5_init_X0_init : GoodIn wsX5_init (wsX0_init) := ggX5_init_X0_init
set_option maxRecDepth 20000 in
theorem ggX5_init_X2_init : GoodIn wsX5_init wsX2_init := goodIn_r _ [72, 73, 2, 3, 74, 33, 34, 75, 76, 42, 43, 44, 45, 46, 47, 48, 49, 50, 51, 52, 53, 54, 115, 109, 110, 111, 112, 113, 114] (by decide +kernel) (by decide +kernel)
set_option maxRecDepth 20000 in
theorem gX5_init_X2_init : GoodIn wsX5_init (wsX2_init) := ggX5_init_X2_init
theorem dX5_init_0 : decode cX5_init 0 = .ok (.aload_n 0, 1) := by decide +kernel
theorem dX5_init_1 : decode cX5_init 1 = .ok (.invokespecial 3, 3) := by decide +kernel
theorem dX5_init_4 : decode cX5_init 4 = .ok (.aload_n 0, 1) := by decide +kernel
theorem dX5_init_5 : decode cX5_init 5 = .ok (.new 9, 3) := by decide +kernel
theorem dX5_init_8 : decode cX5_init 8 = .ok (.dup, 1) := by decide +kernel
theorem dX5_init_9 : decode cX5_init 9 = .ok (.invokespecial 11, 3) := by decide +kernel
theorem dX5_init_12 : decode cX5_init 12 = .ok (.putfield 12, 3) := by decide +kernel
theorem dX5_init_15 : decode cX5_init 15 = .ok (.aload_n 0, 1) := by decide +kernel
theorem dX5_init_16 : decode cX5_init 16 = .ok (.new 9, 3) := by decide +kernel
theorem dX5_init_19 : decode cX5_init 19 = .ok (.dup, 1) := by decide +kernel
theorem dX5_init_20 : decode cX5_init 20 = .ok (.invokespecial 11, 3) := by decide +kernel
theorem dX5_init_23 : decode cX5_init 23 = .ok (.putfield 16, 3) := by decide +kernel
theorem dX5_init_26 : decode cX5_init 26 = .ok (.aload_n 0, 1) := by decide +kernel
theorem dX5_init_27 : decode cX5_init 27 = .ok (.new 9, 3) := by decide +kernel
theorem dX5_init_30 : decode cX5_init 30 = .ok (.dup, 1) := by decide +kernel
theorem dX5_init_31 : decode cX5_init 31 = .ok (.invokespecial 11, 3) := by decide +kernel
theorem dX5_init_34 : decode cX5_init 34 = .ok (.putfield 19, 3) := by decide +kernel
theorem dX5_init_37 : decode cX5_init 37 = .ok (.aload_n 0, 1) := by decide +kernel
theorem dX5_init_38 : decode cX5_init 38 = .ok (.new 9, 3) := by decide +kernel
theorem dX5_init_41 : decode cX5_init 41 = .ok (.dup, 1) := by decide +kernel
theorem dX5_init_42 : decode cX5_init 42 = .ok (.invokespecial 11, 3) := by decide +kernel
theorem dX5_init_45 : decode cX5_init 45 = .ok (.putfield 22, 3) := by decide +kernel
theorem dX5_init_48 : decode cX5_init 48 = .ok (.aload_n 0, 1) := by decide +kernel
theorem dX5_init_49 : decode cX5_init 49 = .ok (.new 25, 3) := by decide +kernel
theorem dX5_init_52 : decode cX5_init 52 = .ok (.dup, 1) := by decide +kernel
theorem dX5_init_53 : decode cX5_init 53 = .ok (.invokespecial 27, 3) := by decide +kernel
theorem dX5_init_56 : decode cX5_init 56 = .ok (.putfield 28, 3) := by decide +kernel
theorem dX5_init_59 : decode cX5_init 59 = .ok (.aload_n 0, 1) := by decide +kernel
theorem dX5_init_60 : decode cX5_init 60 = .ok (.new 32, 3) := by decide +kernel
theorem dX5_init_63 : decode cX5_init 63 = .ok (.dup, 1) := by decide +kernel
theorem dX5_init_64 : decode cX5_init 64 = .ok (.invokespecial 34, 3) := by decide +kernel
theorem dX5_init_67 : decode cX5_init 67 = .ok (.putfield 35, 3) := by decide +kernel
theorem dX5_init_70 : decode cX5_init 70 = .ok (.aload_n 0, 1) := by decide +kernel
theorem dX5_init_71 : decode cX5_init 71 = .ok (.new 39, 3) := by decide +kernel
theorem dX5_init_74 : decode cX5_init 74 = .ok (.dup, 1) := by decide +kernel
theorem dX5_init_75 : decode cX5_init 75 = .ok (.invokespecial 41, 3) := by decide +kernel
theorem dX5_init_78 : decode cX5_init 78 = .ok (.putfield 42, 3) := by decide +kernel
theorem dX5_init_81 : decode cX5_init 81 = .ok (.aload_n 0, 1) := by decide +kernel
theorem dX5_init_82 : decode cX5_init 82 = .ok (.iconst 0, 1) := by decide +kernel
theorem dX5_init_83 : decode cX5_init 83 = .ok (.putfield 46, 3) := by decide +kernel
theorem dX5_init_86 : decode cX5_init 86 = .ok (.return_, 1) := by decide +kernel
set_option maxRecDepth 20000 in
theorem ggX5_setUp_X5_within : GoodIn wsX5_setUp wsX5_within := goodIn_r _ [6] (by decide +kernel) (by decide +kernel)
set_option maxRecDepth 20000 in
theorem gX5_setUp_X5_within : GoodIn wsX5_setUp (va_wsS RX5 50 yX5_within wsX5_within) := goodIn_app (goodIn_of _ (by decide +kernel)) ggX5_setUp_X5_within
set_option maxRecDepth 20000 in
theorem ggX5_setUp_X0_push : GoodIn wsX5_setUp wsX0_push := goodIn_r _ [11, 12, 13, 14, 15, 16, 17, 18, 19, 20, 10, 21, 22, 23, 24, 25, 26, 27, 28, 29, 30, 31, 32, 33, 34, 35, 36, 37, 38, 39, 40, 41, 42, 43, 44, 45, 46, 47, 48, 49, 50, 51, 52, 53, 54, 83, 84, 85, 86, 87, 88, 89, 90, 91, 92, 93, 94, 95, 96, 97, 98, 99, 100, 101, 102] (by decide +kernel) (by decide +kernel)
set_option maxRecDepth 20000 in
theorem gX5_setUp_X0_push : GoodIn wsX5_setUp (wsV RX5 54 RX0 yX0_push wsX0_push) := goodIn_app (goodIn_of _ (by decide +kernel)) ggX5_setUp_X0_push
set_option maxRecDepth 20000 in
theorem ggX5_setUp_X1_rebuild : GoodIn wsX5_setUp wsX1_rebuild := goodIn_r _ [58, 35, 28, 29, 30, 31, 38, 39, 40, 41, 42, 43, 59, 60, 61, 26, 62, 63, 64, 65, 47, 66, 49, 67, 68, 69, 70, 71, 72, 73, 74, 86, 87, 88, 89, 90, 91, 92, 93, 94, 95, 96, 97, 98, 99, 100, 101, 102] (by decide +kernel) (by decide +kernel)
set_option maxRecDepth 20000 in
theorem gX5_setUp_X1_rebuild : GoodIn wsX5_setUp (wsV RX5 58 RX1 yX1_rebuild wsX1_rebuild) := goodIn_app (goodIn_of _ (by decide +kernel)) ggX5_setUp_X1_rebuild
theorem dX5_setUp_0 : decode cX5_setUp 0 = .ok (.iload_n 1, 1) := by decide +kernel
theorem dX5_setUp_1 : decode cX5_setUp 1 = .ok (.iconst 2, 1) := by decide +kernel
theorem dX5_setUp_2 : decode cX5_setUp 2 = .ok (.bipush 8, 2) := by decide +kernel
theorem dX5_setUp_4 : decode cX5_setUp 4 = .ok (.invokestatic 50, 3) := by decide +kernel
theorem dX5_setUp_7 : decode cX5_setUp 7 = .ok (.ifCond .eq 23, 3) := by decide +kernel
theorem dX5_setUp_10 : decode cX5_setUp 10 = .ok (.iload_n 2, 1) := by decide +kernel
theorem dX5_setUp_11 : decode cX5_setUp 11 = .ok (.iconst 1, 1) := by decide +kernel
theorem dX5_setUp_12 : decode cX5_setUp 12 = .ok (.bipush 6, 2) := by decide +kernel
theorem dX5_setUp_14 : decode cX5_setUp 14 = .ok (.invokestatic 50, 3) := by decide +kernel
theorem dX5_setUp_17 : decode cX5_setUp 17 = .ok (.ifCond .eq 13, 3) := by decide +kernel
theorem dX5_setUp_20 : decode cX5_setUp 20 = .ok (.iload_n 3, 1) := by decide +kernel
theorem dX5_setUp_21 : decode cX5_setUp 21 = .ok (.iconst 1, 1) := by decide +kernel
theorem dX5_setUp_22 : decode cX5_setUp 22 = .ok (.bipush 8, 2) := by decide +kernel
theorem dX5_setUp_24 : decode cX5_setUp 24 = .ok (.invokestatic 50, 3) := by decide +kernel
theorem dX5_setUp_27 : decode cX5_setUp 27 = .ok (.ifCond .ne 6, 3) := by decide +kernel
theorem dX5_setUp_30 : decode cX5_setUp 30 = .ok (.bipush (-2), 2) := by decide +kernel
theorem dX5_setUp_32 : decode cX5_setUp 32 = .ok (.ireturn, 1) := by decide +kernel
theorem dX5_setUp_33 : decode cX5_setUp 33 = .ok (.aload_n 0, 1) := by decide +kernel
theorem dX5_setUp_34 : decode cX5_setUp 34 = .ok (.getfield 35, 3) := by decide +kernel
theorem dX5_setUp_37 : decode cX5_setUp 37 = .ok (.aload_n 0, 1) := by decide +kernel
theorem dX5_setUp_38 : decode cX5_setUp 38 = .ok (.getfield 12, 3) := by decide +kernel
theorem dX5_setUp_41 : decode cX5_setUp 41 = .ok (.invokevirtual 54, 3) := by decide +kernel
theorem dX5_setUp_44 : decode cX5_setUp 44 = .ok (.aload_n 0, 1) := by decide +kernel
theorem dX5_setUp_45 : decode cX5_setUp 45 = .ok (.getfield 12, 3) := by decide +kernel
theorem dX5_setUp_48 : decode cX5_setUp 48 = .ok (.iload_n 1, 1) := by decide +kernel
theorem dX5_setUp_49 : decode cX5_setUp 49 = .ok (.iload_n 2, 1) := by decide +kernel
theorem dX5_setUp_50 : decode cX5_setUp 50 = .ok (.iload_n 3, 1) := by decide +kernel
theorem dX5_setUp_51 : decode cX5_setUp 51 = .ok (.invokevirtual 58, 3) := by decide +kernel
theorem dX5_setUp_54 : decode cX5_setUp 54 = .ok (.ireturn, 1) := by decide +kernel
set_option maxRecDepth 20000 in
theorem ggX5_setChoiceRule_X5_within : GoodIn wsX5_setChoiceRule wsX5_within := goodIn_r _ [7] (by decide +kernel) (by decide +kernel)
set_option maxRecDepth 20000 in
theorem gX5_setChoiceRule_X5_within : GoodIn wsX5_setChoiceRule (va_wsS RX5 50 yX5_within wsX5_within) := goodIn_app (goodIn_of _ (by decide +kernel)) ggX5_setChoiceRule_X5_within
set_option maxRecDepth 20000 in
theorem ggX5_setChoiceRule_X0_push : GoodIn wsX5_setChoiceRule wsX0_push := goodIn_r _ [12, 13, 14, 15, 16, 17, 18, 19, 20, 21, 11, 22, 23, 24, 25, 26, 27, 28, 29, 30, 31, 32, 33, 34, 35, 36, 37, 38, 39, 40, 41, 42, 43, 44, 45, 46, 47, 48, 49, 50, 51, 52, 53, 54, 55, 80, 81, 82, 64, 65, 66, 67, 68, 69, 70, 71, 72, 73, 74, 75, 76, 77, 78, 79, 83] (by decide +kernel) (by decide +kernel)
set_option maxRecDepth 20000 in
theorem gX5_setChoiceRule_X0_push : GoodIn wsX5_setChoiceRule (wsV RX5 54 RX0 yX0_push wsX0_push) := goodIn_app (goodIn_of _ (by decide +kernel)) ggX5_setChoiceRule_X0_push
theorem dX5_setChoiceRule_0 : decode cX5_setChoiceRule 0 = .ok (.iload_n 1, 1) := by decide +kernel
theorem dX5_setChoiceRule_1 : decode cX5_setChoiceRule 1 = .ok (.iconst 0, 1) := by decide +kernel
theorem dX5_setChoiceRule_2 : decode cX5_setChoiceRule 2 = .ok (.iconst 2, 1) := by decide +kernel
theorem dX5_setChoiceRule_3 : decode cX5_setChoiceRule 3 = .ok (.invokestatic 50, 3) := by decide +kernel
theorem dX5_setChoiceRule_6 : decode cX5_setChoiceRule 6 = .ok (.ifCond .ne 6, 3) := by decide +kernel
theorem dX5_setChoiceRule_9 : decode cX5_setChoiceRule 9 = .ok (.bipush (-2), 2) := by decide +kernel
theorem dX5_setChoiceRule_11 : decode cX5_setChoiceRule 11 = .ok (.ireturn, 1) := by decide +kernel
theorem dX5_setChoiceRule_12 : decode cX5_setChoiceRule 12 = .ok (.aload_n 0, 1) := by decide +kernel
theorem dX5_setChoiceRule_13 : decode cX5_setChoiceRule 13 = .ok (.getfield 12, 3) := by decide +kernel
theorem dX5_setChoiceRule_16 : decode cX5_setChoiceRule 16 = .ok (.getfield 62, 3) := by decide +kernel
theorem dX5_setChoiceRule_19 : decode cX5_setChoiceRule 19 = .ok (.istore_n 2, 1) := by decide +kernel
theorem dX5_setChoiceRule_20 : decode cX5_setChoiceRule 20 = .ok (.iload_n 1, 1) := by decide +kernel
theorem dX5_setChoiceRule_21 : decode cX5_setChoiceRule 21 = .ok (.iload_n 2, 1) := by decide +kernel
theorem dX5_setChoiceRule_22 : decode cX5_setChoiceRule 22 = .ok (.if_icmp .ne 6, 3) := by decide +kernel
theorem dX5_setChoiceRule_25 : decode cX5_setChoiceRule 25 = .ok (.bipush (-6), 2) := by decide +kernel
theorem dX5_setChoiceRule_27 : decode cX5_setChoiceRule 27 = .ok (.ireturn, 1) := by decide +kernel
theorem dX5_setChoiceRule_28 : decode cX5_setChoiceRule 28 = .ok (.aload_n 0, 1) := by decide +kernel
theorem dX5_setChoiceRule_29 : decode cX5_setChoiceRule 29 = .ok (.getfield 35, 3) := by decide +kernel
theorem dX5_setChoiceRule_32 : decode cX5_setChoiceRule 32 = .ok (.aload_n 0, 1) := by decide +kernel
theorem dX5_setChoiceRule_33 : decode cX5_setChoiceRule 33 = .ok (.getfield 12, 3) := by decide +kernel
theorem dX5_setChoiceRule_36 : decode cX5_setChoiceRule 36 = .ok (.invokevirtual 54, 3) := by decide +kernel
theorem dX5_setChoiceRule_39 : decode cX5_setChoiceRule 39 = .ok (.aload_n 0, 1) := by decide +kernel
theorem dX5_setChoiceRule_40 : decode cX5_setChoiceRule 40 = .ok (.getfield 12, 3) := by decide +kernel
theorem dX5_setChoiceRule_43 : decode cX5_setChoiceRule 43 = .ok (.iload_n 1, 1) := by decide +kernel
theorem dX5_setChoiceRule_44 : decode cX5_setChoiceRule 44 = .ok (.putfield 62, 3) := by decide +kernel
theorem dX5_setChoiceRule_47 : decode cX5_setChoiceRule 47 = .ok (.iload_n 2, 1) := by decide +kernel
theorem dX5_setChoiceRule_48 : decode cX5_setChoiceRule 48 = .ok (.ireturn, 1) := by decide +kernel
set_option maxRecDepth 20000 in
theorem ggX5_setPairRule_X5_within : GoodIn wsX5_setPairRule wsX5_within := goodIn_r _ [7] (by decide +kernel) (by decide +kernel)
set_option maxRecDepth 20000 in
theorem gX5_setPairRule_X5_within : GoodIn wsX5_setPairRule (va_wsS RX5 50 yX5_within wsX5_within) := goodIn_app (goodIn_of _ (by decide +kernel)) ggX5_setPairRule_X5_within
set_option maxRecDepth 20000 in
theorem ggX5_setPairRule_X0_push : GoodIn wsX5_setPairRule wsX0_push := goodIn_r _ [12, 13, 14, 15, 16, 17, 18, 19, 20, 21, 11, 22, 23, 24, 25, 26, 27, 28, 29, 30, 31, 32, 33, 34, 35, 36, 37, 38, 39, 40, 41, 42, 43, 44, 45, 46, 47, 48, 49, 50, 51, 52, 53, 54, 55, 80, 81, 82, 64, 65, 66, 67, 68, 69, 70, 71, 72, 73, 74, 75, 76, 77, 78, 79, 83] (by decide +kernel) (by decide +kernel)
set_option maxRecDepth 20000 in
theorem gX5_setPairRule_X0_push : GoodIn wsX5_setPairRule (wsV RX5 54 RX0 yX0_push wsX0_push) := goodIn_app (goodIn_of _ (by decide +kernel)) ggX5_setPairRule_X0_push
theorem dX5_setPairRule_0 : decode cX5_setPairRule 0 = .ok (.iload_n 1, 1) := by decide +kernel
theorem dX5_setPairRule_1 : decode cX5_setPairRule 1 = .ok (.iconst 0, 1) := by decide +kernel
theorem dX5_setPairRule_2 : decode cX5_setPairRule 2 = .ok (.iconst 1, 1) := by decide +kernel
theorem dX5_setPairRule_3 : decode cX5_setPairRule 3 = .ok (.invokestatic 50, 3) := by decide +kernel
theorem dX5_setPairRule_6 : decode cX5_setPairRule 6 = .ok (.ifCond .ne 6, 3) := by decide +kernel
theorem dX5_setPairRule_9 : decode cX5_setPairRule 9 = .ok (.bipush (-2), 2) := by decide +kernel
theorem dX5_setPairRule_11 : decode cX5_setPairRule 11 = .ok (.ireturn, 1) := by decide +kernel
theorem dX5_setPairRule_12 : decode cX5_setPairRule 12 = .ok (.aload_n 0, 1) := by decide +kernel
theorem dX5_setPairRule_13 : decode cX5_setPairRule 13 = .ok (.getfield 12, 3) := by decide +kernel
theorem dX5_setPairRule_16 : decode cX5_setPairRule 16 = .ok (.getfield 66, 3) := by decide +kernel
theorem dX5_setPairRule_19 : decode cX5_setPairRule 19 = .ok (.istore_n 2, 1) := by decide +kernel
theorem dX5_setPairRule_20 : decode cX5_setPairRule 20 = .ok (.iload_n 1, 1) := by decide +kernel
theorem dX5_setPairRule_21 : decode cX5_setPairRule 21 = .ok (.iload_n 2, 1) := by decide +kernel
theorem dX5_setPairRule_22 : decode cX5_setPairRule 22 = .ok (.if_icmp .ne 6, 3) := by decide +kernel
theorem dX5_setPairRule_25 : decode cX5_setPairRule 25 = .ok (.bipush (-6), 2) := by decide +kernel
theorem dX5_setPairRule_27 : decode cX5_setPairRule 27 = .ok (.ireturn, 1) := by decide +kernel
theorem dX5_setPairRule_28 : decode cX5_setPairRule 28 = .ok (.aload_n 0, 1) := by decide +kernel
theorem dX5_setPairRule_29 : decode cX5_setPairRule 29 = .ok (.getfield 35, 3) := by decide +kernel
theorem dX5_setPairRule_32 : decode cX5_setPairRule 32 = .ok (.aload_n 0, 1) := by decide +kernel
theorem dX5_setPairRule_33 : decode cX5_setPairRule 33 = .ok (.getfield 12, 3) := by decide +kernel
theorem dX5_setPairRule_36 : decode cX5_setPairRule 36 = .ok (.invokevirtual 54, 3) := by decide +kernel
theorem dX5_setPairRule_39 : decode cX5_setPairRule 39 = .ok (.aload_n 0, 1) := by decide +kernel
theorem dX5_setPairRule_40 : decode cX5_setPairRule 40 = .ok (.getfield 12, 3) := by decide +kernel
theorem dX5_setPairRule_43 : decode cX5_setPairRule 43 = .ok (.iload_n 1, 1) := by decide +kernel
theorem dX5_setPairRule_44 : decode cX5_setPairRule 44 = .ok (.putfield 66, 3) := by decide +kernel
theorem dX5_setPairRule_47 : decode cX5_setPairRule 47 = .ok (.iload_n 2, 1) := by decide +kernel
theorem dX5_setPairRule_48 : decode cX5_setPairRule 48 = .ok (.ireturn, 1) := by decide +kernel
set_option maxRecDepth 20000 in
theorem ggX5_connect_X1_copyFrom : GoodIn wsX5_connect wsX1_copyFrom := goodIn_r _ [8, 9, 10, 11, 12, 13, 14, 15, 16, 17, 18, 19, 20, 21, 22, 23, 24, 25, 26, 27, 28, 29, 30, 31, 32, 33, 34, 35, 36, 37, 38, 157, 158, 159, 160, 161, 162, 163, 164, 165, 166, 167, 168, 169, 170, 171, 172, 173] (by decide +kernel) (by decide +kernel)
set_option maxRecDepth 20000 in
theorem gX5_connect_X1_copyFrom : GoodIn wsX5_connect (wsV RX5 69 RX1 yX1_copyFrom wsX1_copyFrom) := goodIn_app (goodIn_of _ (by decide +kernel)) ggX5_connect_X1_copyFrom
set_option maxRecDepth 20000 in
theorem ggX5_connect_X3_join : GoodIn wsX5_connect wsX3_join := goodIn_r _ [43, 44, 45, 46, 42, 47, 48, 49, 50, 7, 51, 9, 10, 52, 53, 54, 55, 19, 56, 57, 58, 28, 59, 30, 60, 61, 62, 63, 22, 64, 65, 66, 67, 68, 69, 70, 71, 72, 73, 74, 75, 76, 77, 78, 79, 11, 12, 80, 81, 82, 83, 84, 85, 86, 87, 88, 89, 90, 91, 92, 93, 23, 94, 95, 96, 97, 98, 99, 100, 101, 102, 103, 104, 105, 106, 107, 108, 109, 110, 111, 112, 113, 114, 15, 20, 115, 116, 117, 118, 119, 120, 121, 122, 123, 124, 21, 24, 125, 126, 127, 128, 129, 157, 158, 159, 160, 161, 162, 163, 164, 165, 166, 167, 168, 169, 170, 171, 172, 173, 174, 175, 176, 177, 178] (by decide +kernel) (by decide +kernel)
set_option maxRecDepth 20000 in
theorem gX5_connect_X3_join : GoodIn wsX5_connect (wsV RX5 72 RX3 yX3_join wsX3_join) := goodIn_app (goodIn_of _ (by decide +kernel)) ggX5_connect_X3_join
set_option maxRecDepth 20000 in
theorem ggX5_connect_X5_recorded : GoodIn wsX5_connect wsX5_recorded := goodIn_r _ [133, 134, 1, 135, 136, 137, 138, 139, 140, 141, 142, 32, 33, 34, 143, 144, 145, 146, 147, 148, 5, 6, 7, 8, 9, 10, 11, 12, 13, 14, 15, 16, 17, 18, 19, 20, 21, 22, 23, 24, 25, 26, 27, 28, 29, 30, 31, 35, 36, 37, 38, 149, 150, 151, 152, 153, 154, 155, 156, 179, 180, 181, 157, 158, 159, 160, 161, 162, 163, 164, 165, 166, 167, 168, 169, 170, 171, 172, 173] (by decide +kernel) (by decide +kernel)
set_option maxRecDepth 20000 in
theorem gX5_connect_X5_recorded : GoodIn wsX5_connect (wsV RX5 76 RX5 yX5_recorded wsX5_recorded) := goodIn_app (goodIn_of _ (by decide +kernel)) ggX5_connect_X5_recorded
theorem dX5_connect_0 : decode cX5_connect 0 = .ok (.aload_n 0, 1) := by decide +kernel
theorem dX5_connect_1 : decode cX5_connect 1 = .ok (.getfield 16, 3) := by decide +kernel
theorem dX5_connect_4 : decode cX5_connect 4 = .ok (.aload_n 0, 1) := by decide +kernel
theorem dX5_connect_5 : decode cX5_connect 5 = .ok (.getfield 12, 3) := by decide +kernel
theorem dX5_connect_8 : decode cX5_connect 8 = .ok (.invokevirtual 69, 3) := by decide +kernel
theorem dX5_connect_11 : decode cX5_connect 11 = .ok (.aload_n 0, 1) := by decide +kernel
theorem dX5_connect_12 : decode cX5_connect 12 = .ok (.aload_n 0, 1) := by decide +kernel
theorem dX5_connect_13 : decode cX5_connect 13 = .ok (.getfield 28, 3) := by decide +kernel
theorem dX5_connect_16 : decode cX5_connect 16 = .ok (.aload_n 0, 1) := by decide +kernel
theorem dX5_connect_17 : decode cX5_connect 17 = .ok (.getfield 12, 3) := by decide +kernel
theorem dX5_connect_20 : decode cX5_connect 20 = .ok (.iload_n 1, 1) := by decide +kernel
theorem dX5_connect_21 : decode cX5_connect 21 = .ok (.iload_n 2, 1) := by decide +kernel
theorem dX5_connect_22 : decode cX5_connect 22 = .ok (.invokevirtual 72, 3) := by decide +kernel
theorem dX5_connect_25 : decode cX5_connect 25 = .ok (.invokevirtual 76, 3) := by decide +kernel
theorem dX5_connect_28 : decode cX5_connect 28 = .ok (.ireturn, 1) := by decide +kernel
set_option maxRecDepth 20000 in
theorem ggX5_disconnect_X1_copyFrom : GoodIn wsX5_disconnect wsX1_copyFrom := goodIn_r _ [8, 9, 10, 11, 12, 13, 14, 15, 16, 17, 18, 19, 20, 21, 22, 23, 24, 25, 26, 27, 28, 29, 30, 31, 32, 33, 34, 35, 36, 37, 38, 105, 106, 107, 108, 109, 110, 111, 112, 113, 114, 115, 116, 117, 118, 119, 120, 121] (by decide +kernel) (by decide +kernel)
set_option maxRecDepth 20000 in
theorem gX5_disconnect_X1_copyFrom : GoodIn wsX5_disconnect (wsV RX5 69 RX1 yX1_copyFrom wsX1_copyFrom) := goodIn_app (goodIn_of _ (by decide +kernel)) ggX5_disconnect_X1_copyFrom
set_option maxRecDepth 20000 in
theorem ggX5_disconnect_X3_part : GoodIn wsX5_disconnect wsX3_part := goodIn_r _ [43, 44, 45, 46, 47, 48, 7, 49, 9, 10, 50, 51, 52, 53, 19, 54, 55, 56, 28, 57, 30, 58, 59, 60, 61, 62, 22, 20, 63, 64, 65, 66, 21, 23, 24, 67, 68, 69, 70, 71, 72, 73, 74, 75, 76, 77, 105, 106, 107, 108, 109, 110, 111, 112, 113, 114, 115, 116, 117, 118, 119, 120, 121] (by decide +kernel) (by decide +kernel)
set_option maxRecDepth 20000 in
theorem gX5_disconnect_X3_part : GoodIn wsX5_disconnect (wsV RX5 80 RX3 yX3_part wsX3_part) := goodIn_app (goodIn_of _ (by decide +kernel)) ggX5_disconnect_X3_part
set_option maxRecDepth 20000 in
theorem ggX5_disconnect_X5_recorded : GoodIn wsX5_disconnect wsX5_recorded := goodIn_r _ [81, 82, 1, 83, 84, 85, 86, 87, 88, 89, 90, 32, 33, 34, 91, 92, 93, 94, 95, 96, 5, 6, 7, 8, 9, 10, 11, 12, 13, 14, 15, 16, 17, 18, 19, 20, 21, 22, 23, 24, 25, 26, 27, 28, 29, 30, 31, 35, 36, 37, 38, 97, 98, 99, 100, 101, 102, 103, 104, 122, 123, 124, 105, 106, 107, 108, 109, 110, 111, 112, 113, 114, 115, 116, 117, 118, 119, 120, 121] (by decide +kernel) (by decide +kernel)
set_option maxRecDepth 20000 in
theorem gX5_disconnect_X5_recorded : GoodIn wsX5_disconnect (wsV RX5 76 RX5 yX5_recorded wsX5_recorded) := goodIn_app (goodIn_of _ (by decide +kernel)) ggX5_disconnect_X5_recorded
theorem dX5_disconnect_0 : decode cX5_disconnect 0 = .ok (.aload_n 0, 1) := by decide +kernel
theorem dX5_disconnect_1 : decode cX5_disconnect 1 = .ok (.getfield 16, 3) := by decide +kernel
theorem dX5_disconnect_4 : decode cX5_disconnect 4 = .ok (.aload_n 0, 1) := by decide +kernel
theorem dX5_disconnect_5 : decode cX5_disconnect 5 = .ok (.getfield 12, 3) := by decide +kernel
theorem dX5_disconnect_8 : decode cX5_disconnect 8 = .ok (.invokevirtual 69, 3) := by decide +kernel
theorem dX5_disconnect_11 : decode cX5_disconnect 11 = .ok (.aload_n 0, 1) := by decide +kernel
theorem dX5_disconnect_12 : decode cX5_disconnect 12 = .ok (.aload_n 0, 1) := by decide +kernel
theorem dX5_disconnect_13 : decode cX5_disconnect 13 = .ok (.getfield 28, 3) := by decide +kernel
theorem dX5_disconnect_16 : decode cX5_disconnect 16 = .ok (.aload_n 0, 1) := by decide +kernel
theorem dX5_disconnect_17 : decode cX5_disconnect 17 = .ok (.getfield 12, 3) := by decide +kernel
theorem dX5_disconnect_20 : decode cX5_disconnect 20 = .ok (.iload_n 1, 1) := by decide +kernel
theorem dX5_disconnect_21 : decode cX5_disconnect 21 = .ok (.invokevirtual 80, 3) := by decide +kernel
theorem dX5_disconnect_24 : decode cX5_disconnect 24 = .ok (.invokevirtual 76, 3) := by decide +kernel
theorem dX5_disconnect_27 : decode cX5_disconnect 27 = .ok (.ireturn, 1) := by decide +kernel
set_option maxRecDepth 20000 in
theorem ggX5_takeOut_X1_copyFrom : GoodIn wsX5_takeOut wsX1_copyFrom := goodIn_r _ [8, 9, 10, 11, 12, 13, 14, 15, 16, 17, 18, 19, 20, 21, 22, 23, 24, 25, 26, 27, 28, 29, 30, 31, 32, 33, 34, 35, 36, 37, 38, 161, 162, 163, 164, 165, 166, 167, 168, 169, 170, 171, 172, 173, 174, 175, 176, 177] (by decide +kernel) (by decide +kernel)
set_option maxRecDepth 20000 in
theorem gX5_takeOut_X1_copyFrom : GoodIn wsX5_takeOut (wsV RX5 69 RX1 yX1_copyFrom wsX1_copyFrom) := goodIn_app (goodIn_of _ (by decide +kernel)) ggX5_takeOut_X1_copyFrom
set_option maxRecDepth 20000 in
theorem ggX5_takeOut_X3_retire : GoodIn wsX5_takeOut wsX3_retire := goodIn_r _ [43, 44, 45, 46, 47, 48, 7, 49, 11, 50, 51, 52, 53, 54, 55, 28, 56, 30, 57, 58, 59, 60, 21, 23, 24, 20, 61, 62, 63, 64, 65, 10, 66, 67, 68, 69, 70, 71, 72, 73, 74, 42, 75, 76, 77, 78, 79, 80, 81, 82, 19, 83, 84, 85, 86, 87, 88, 89, 90, 91, 92, 93, 94, 95, 96, 97, 98, 99, 12, 100, 101, 102, 103, 104, 105, 106, 107, 108, 9, 109, 110, 111, 112, 113, 114, 115, 116, 117, 118, 119, 120, 121, 122, 123, 124, 22, 125, 126, 127, 128, 129, 130, 131, 132, 133, 161, 162, 163, 164, 165, 166, 167, 168, 169, 170, 171, 172, 173, 174, 175, 176, 177, 178, 179, 180, 181, 182] (by decide +kernel) (by decide +kernel)
set_option maxRecDepth 20000 in
theorem gX5_takeOut_X3_retire : GoodIn wsX5_takeOut (wsV RX5 84 RX3 yX3_retire wsX3_retire) := goodIn_app (goodIn_of _ (by decide +kernel)) ggX5_takeOut_X3_retire
set_option maxRecDepth 20000 in
theorem ggX5_takeOut_X5_recorded : GoodIn wsX5_takeOut wsX5_recorded := goodIn_r _ [137, 138, 1, 139, 140, 141, 142, 143, 144, 145, 146, 32, 33, 34, 147, 148, 149, 150, 151, 152, 5, 6, 7, 8, 9, 10, 11, 12, 13, 14, 15, 16, 17, 18, 19, 20, 21, 22, 23, 24, 25, 26, 27, 28, 29, 30, 31, 35, 36, 37, 38, 153, 154, 155, 156, 157, 158, 159, 160, 183, 184, 185, 161, 162, 163, 164, 165, 166, 167, 168, 169, 170, 171, 172, 173, 174, 175, 176, 177] (by decide +kernel) (by decide +kernel)
set_option maxRecDepth 20000 in
theorem gX5_takeOut_X5_recorded : GoodIn wsX5_takeOut (wsV RX5 76 RX5 yX5_recorded wsX5_recorded) := goodIn_app (goodIn_of _ (by decide +kernel)) ggX5_takeOut_X5_recorded
theorem dX5_takeOut_0 : decode cX5_takeOut 0 = .ok (.aload_n 0, 1) := by decide +kernel
theorem dX5_takeOut_1 : decode cX5_takeOut 1 = .ok (.getfield 16, 3) := by decide +kernel
theorem dX5_takeOut_4 : decode cX5_takeOut 4 = .ok (.aload_n 0, 1) := by decide +kernel
theorem dX5_takeOut_5 : decode cX5_takeOut 5 = .ok (.getfield 12, 3) := by decide +kernel
theorem dX5_takeOut_8 : decode cX5_takeOut 8 = .ok (.invokevirtual 69, 3) := by decide +kernel
theorem dX5_takeOut_11 : decode cX5_takeOut 11 = .ok (.aload_n 0, 1) := by decide +kernel
theorem dX5_takeOut_12 : decode cX5_takeOut 12 = .ok (.aload_n 0, 1) := by decide +kernel
theorem dX5_takeOut_13 : decode cX5_takeOut 13 = .ok (.getfield 28, 3) := by decide +kernel
theorem dX5_takeOut_16 : decode cX5_takeOut 16 = .ok (.aload_n 0, 1) := by decide +kernel
theorem dX5_takeOut_17 : decode cX5_takeOut 17 = .ok (.getfield 12, 3) := by decide +kernel
theorem dX5_takeOut_20 : decode cX5_takeOut 20 = .ok (.iload_n 1, 1) := by decide +kernel
theorem dX5_takeOut_21 : decode cX5_takeOut 21 = .ok (.invokevirtual 84, 3) := by decide +kernel
theorem dX5_takeOut_24 : decode cX5_takeOut 24 = .ok (.invokevirtual 76, 3) := by decide +kernel
theorem dX5_takeOut_27 : decode cX5_takeOut 27 = .ok (.ireturn, 1) := by decide +kernel
set_option maxRecDepth 20000 in
theorem ggX5_putBack_X1_copyFrom : GoodIn wsX5_putBack wsX1_copyFrom := goodIn_r _ [8, 9, 10, 11, 12, 13, 14, 15, 16, 17, 18, 19, 20, 21, 22, 23, 24, 25, 26, 27, 28, 29, 30, 31, 32, 33, 34, 35, 36, 37, 38, 86, 87, 88, 89, 90, 91, 92, 93, 94, 95, 96, 97, 98, 99, 100, 101, 102] (by decide +kernel) (by decide +kernel)
set_option maxRecDepth 20000 in
theorem gX5_putBack_X1_copyFrom : GoodIn wsX5_putBack (wsV RX5 69 RX1 yX1_copyFrom wsX1_copyFrom) := goodIn_app (goodIn_of _ (by decide +kernel)) ggX5_putBack_X1_copyFrom
set_option maxRecDepth 20000 in
theorem ggX5_putBack_X3_revive : GoodIn wsX5_putBack wsX3_revive := goodIn_r _ [43, 44, 45, 46, 47, 7, 48, 11, 49, 50, 51, 52, 53, 54, 55, 56, 57, 58, 86, 87, 88, 89, 90, 91, 92, 93, 94, 95, 96, 97, 98, 99, 100, 101] (by decide +kernel) (by decide +kernel)
set_option maxRecDepth 20000 in
theorem gX5_putBack_X3_revive : GoodIn wsX5_putBack (wsV RX5 87 RX3 yX3_revive wsX3_revive) := goodIn_app (goodIn_of _ (by decide +kernel)) ggX5_putBack_X3_revive
set_option maxRecDepth 20000 in
theorem ggX5_putBack_X5_recorded : GoodIn wsX5_putBack wsX5_recorded := goodIn_r _ [62, 63, 1, 64, 65, 66, 67, 68, 69, 70, 71, 32, 33, 34, 72, 73, 74, 75, 76, 77, 5, 6, 7, 8, 9, 10, 11, 12, 13, 14, 15, 16, 17, 18, 19, 20, 21, 22, 23, 24, 25, 26, 27, 28, 29, 30, 31, 35, 36, 37, 38, 78, 79, 80, 81, 82, 83, 84, 85, 103, 104, 105, 86, 87, 88, 89, 90, 91, 92, 93, 94, 95, 96, 97, 98, 99, 100, 101, 102] (by decide +kernel) (by decide +kernel)
set_option maxRecDepth 20000 in
theorem gX5_putBack_X5_recorded : GoodIn wsX5_putBack (wsV RX5 76 RX5 yX5_recorded wsX5_recorded) := goodIn_app (goodIn_of _ (by decide +kernel)) ggX5_putBack_X5_recorded
theorem dX5_putBack_0 : decode cX5_putBack 0 = .ok (.aload_n 0, 1) := by decide +kernel
theorem dX5_putBack_1 : decode cX5_putBack 1 = .ok (.getfield 16, 3) := by decide +kernel
theorem dX5_putBack_4 : decode cX5_putBack 4 = .ok (.aload_n 0, 1) := by decide +kernel
theorem dX5_putBack_5 : decode cX5_putBack 5 = .ok (.getfield 12, 3) := by decide +kernel
theorem dX5_putBack_8 : decode cX5_putBack 8 = .ok (.invokevirtual 69, 3) := by decide +kernel
theorem dX5_putBack_11 : decode cX5_putBack 11 = .ok (.aload_n 0, 1) := by decide +kernel
theorem dX5_putBack_12 : decode cX5_putBack 12 = .ok (.aload_n 0, 1) := by decide +kernel
theorem dX5_putBack_13 : decode cX5_putBack 13 = .ok (.getfield 28, 3) := by decide +kernel
theorem dX5_putBack_16 : decode cX5_putBack 16 = .ok (.aload_n 0, 1) := by decide +kernel
theorem dX5_putBack_17 : decode cX5_putBack 17 = .ok (.getfield 12, 3) := by decide +kernel
theorem dX5_putBack_20 : decode cX5_putBack 20 = .ok (.iload_n 1, 1) := by decide +kernel
theorem dX5_putBack_21 : decode cX5_putBack 21 = .ok (.invokevirtual 87, 3) := by decide +kernel
theorem dX5_putBack_24 : decode cX5_putBack 24 = .ok (.invokevirtual 76, 3) := by decide +kernel
theorem dX5_putBack_27 : decode cX5_putBack 27 = .ok (.ireturn, 1) := by decide +kernel
set_option maxRecDepth 20000 in
theorem ggX5_pack_X1_copyFrom : GoodIn wsX5_pack wsX1_copyFrom := goodIn_r _ [8, 9, 10, 11, 12, 13, 14, 15, 16, 17, 18, 19, 20, 21, 22, 23, 24, 25, 26, 27, 28, 29, 30, 31, 32, 33, 34, 35, 36, 37, 38, 181, 182, 183, 184, 185, 186, 187, 188, 189, 190, 191, 192, 193, 194, 195, 196, 197] (by decide +kernel) (by decide +kernel)
set_option maxRecDepth 20000 in
theorem gX5_pack_X1_copyFrom : GoodIn wsX5_pack (wsV RX5 69 RX1 yX1_copyFrom wsX1_copyFrom) := goodIn_app (goodIn_of _ (by decide +kernel)) ggX5_pack_X1_copyFrom
set_option maxRecDepth 20000 in
theorem ggX5_pack_X3_repack : GoodIn wsX5_pack wsX3_repack := goodIn_r _ [43, 44, 45, 46, 47, 48, 49, 50, 7, 51, 19, 52, 53, 54, 28, 55, 30, 56, 57, 58, 59, 9, 10, 60, 61, 33, 62, 63, 64, 65, 66, 67, 68, 69, 70, 22, 71, 72, 42, 73, 74, 75, 76, 77, 26, 27, 29, 31, 32, 34, 35, 36, 37, 38, 78, 79, 80, 81, 21, 23, 24, 20, 82, 83, 84, 85, 86, 87, 88, 89, 90, 91, 92, 93, 94, 95, 96, 97, 98, 99, 100, 101, 102, 103, 104, 105, 106, 107, 108, 109, 110, 111, 112, 113, 114, 115, 11, 12, 116, 117, 118, 119, 120, 121, 122, 123, 124, 125, 126, 127, 128, 129, 130, 131, 132, 133, 134, 135, 136, 137, 138, 139, 140, 141, 142, 143, 144, 145, 146, 147, 148, 149, 150, 151, 152, 153, 181, 182, 183, 184, 185, 186, 187, 188, 189, 190, 191, 192, 193, 194, 195, 196, 198, 199, 200, 201, 202, 197] (by decide +kernel) (by decide +kernel)
set_option maxRecDepth 20000 in
theorem gX5_pack_X3_repack : GoodIn wsX5_pack (wsV RX5 90 RX3 yX3_repack wsX3_repack) := goodIn_app (goodIn_of _ (by decide +kernel)) ggX5_pack_X3_repack
set_option maxRecDepth 20000 in
theorem ggX5_pack_X5_recorded : GoodIn wsX5_pack wsX5_recorded := goodIn_r _ [157, 158, 1, 159, 160, 161, 162, 163, 164, 165, 166, 32, 33, 34, 167, 168, 169, 170, 171, 172, 5, 6, 7, 8, 9, 10, 11, 12, 13, 14, 15, 16, 17, 18, 19, 20, 21, 22, 23, 24, 25, 26, 27, 28, 29, 30, 31, 35, 36, 37, 38, 173, 174, 175, 176, 177, 178, 179, 180, 203, 204, 205, 181, 182, 183, 184, 185, 186, 187, 188, 189, 190, 191, 192, 193, 194, 195, 196, 197] (by decide +kernel) (by decide +kernel)
set_option maxRecDepth 20000 in
theorem gX5_pack_X5_recorded : GoodIn wsX5_pack (wsV RX5 76 RX5 yX5_recorded wsX5_recorded) := goodIn_app (goodIn_of _ (by decide +kernel)) ggX5_pack_X5_recorded
theorem dX5_pack_0 : decode cX5_pack 0 = .ok (.aload_n 0, 1) := by decide +kernel
theorem dX5_pack_1 : decode cX5_pack 1 = .ok (.getfield 16, 3) := by decide +kernel
theorem dX5_pack_4 : decode cX5_pack 4 = .ok (.aload_n 0, 1) := by decide +kernel
theorem dX5_pack_5 : decode cX5_pack 5 = .ok (.getfield 12, 3) := by decide +kernel
theorem dX5_pack_8 : decode cX5_pack 8 = .ok (.invokevirtual 69, 3) := by decide +kernel
theorem dX5_pack_11 : decode cX5_pack 11 = .ok (.aload_n 0, 1) := by decide +kernel
theorem dX5_pack_12 : decode cX5_pack 12 = .ok (.aload_n 0, 1) := by decide +kernel
theorem dX5_pack_13 : decode cX5_pack 13 = .ok (.getfield 28, 3) := by decide +kernel
theorem dX5_pack_16 : decode cX5_pack 16 = .ok (.aload_n 0, 1) := by decide +kernel
theorem dX5_pack_17 : decode cX5_pack 17 = .ok (.getfield 12, 3) := by decide +kernel
theorem dX5_pack_20 : decode cX5_pack 20 = .ok (.invokevirtual 90, 3) := by decide +kernel
theorem dX5_pack_23 : decode cX5_pack 23 = .ok (.invokevirtual 76, 3) := by decide +kernel
theorem dX5_pack_26 : decode cX5_pack 26 = .ok (.ireturn, 1) := by decide +kernel
set_option maxRecDepth 20000 in
theorem ggX5_undo_X0_takeBack : GoodIn wsX5_undo wsX0_takeBack := goodIn_r _ [7, 8, 9, 10, 11, 12, 6, 13, 14, 15, 16, 17, 18, 19, 20, 21, 22, 23, 24, 25, 26, 27, 28, 29, 30, 31, 32, 33, 34, 35, 36, 37, 38, 39, 40, 41, 42, 43, 44, 45, 46, 47, 48, 49, 58, 59, 60, 61, 62, 63, 64, 65, 66, 67, 68, 69, 70, 71, 72, 73, 74, 75, 76, 77] (by decide +kernel) (by decide +kernel)
set_option maxRecDepth 20000 in
theorem gX5_undo_X0_takeBack : GoodIn wsX5_undo (wsV RX5 118 RX0 yX0_takeBack wsX0_takeBack) := goodIn_app (goodIn_of _ (by decide +kernel)) ggX5_undo_X0_takeBack
theorem dX5_undo_0 : decode cX5_undo 0 = .ok (.aload_n 0, 1) := by decide +kernel
theorem dX5_undo_1 : decode cX5_undo 1 = .ok (.getfield 35, 3) := by decide +kernel
theorem dX5_undo_4 : decode cX5_undo 4 = .ok (.aload_n 0, 1) := by decide +kernel
theorem dX5_undo_5 : decode cX5_undo 5 = .ok (.getfield 12, 3) := by decide +kernel
theorem dX5_undo_8 : decode cX5_undo 8 = .ok (.invokevirtual 118, 3) := by decide +kernel
theorem dX5_undo_11 : decode cX5_undo 11 = .ok (.ireturn, 1) := by decide +kernel
set_option maxRecDepth 20000 in
theorem ggX5_keep_X1_copyFrom : GoodIn wsX5_keep wsX1_copyFrom := goodIn_r _ [8, 9, 10, 11, 12, 13, 14, 15, 16, 17, 18, 19, 20, 21, 22, 23, 24, 25, 26, 27, 28, 29, 30, 31, 32, 33, 34, 35, 36, 37, 38, 55, 56, 57, 58, 59, 60, 61, 62, 63, 64, 65, 66, 67, 68, 69, 70, 71] (by decide +kernel) (by decide +kernel)
set_option maxRecDepth 20000 in
theorem gX5_keep_X1_copyFrom : GoodIn wsX5_keep (wsV RX5 69 RX1 yX1_copyFrom wsX1_copyFrom) := goodIn_app (goodIn_of _ (by decide +kernel)) ggX5_keep_X1_copyFrom
set_option maxRecDepth 20000 in
theorem ggX5_keep_X1_countCalls : GoodIn wsX5_keep wsX1_countCalls := goodIn_r _ [42, 19, 43, 44, 45, 28, 46, 30, 55, 56, 57, 58, 59, 60, 61, 62, 63, 64, 65, 66, 67, 68, 69, 70, 71] (by decide +kernel) (by decide +kernel)
set_option maxRecDepth 20000 in
theorem gX5_keep_X1_countCalls : GoodIn wsX5_keep (wsV RX5 121 RX1 yX1_countCalls wsX1_countCalls) := goodIn_app (goodIn_of _ (by decide +kernel)) ggX5_keep_X1_countCalls
theorem dX5_keep_0 : decode cX5_keep 0 = .ok (.aload_n 0, 1) := by decide +kernel
theorem dX5_keep_1 : decode cX5_keep 1 = .ok (.getfield 19, 3) := by decide +kernel
theorem dX5_keep_4 : decode cX5_keep 4 = .ok (.aload_n 0, 1) := by decide +kernel
theorem dX5_keep_5 : decode cX5_keep 5 = .ok (.getfield 12, 3) := by decide +kernel
theorem dX5_keep_8 : decode cX5_keep 8 = .ok (.invokevirtual 69, 3) := by decide +kernel
theorem dX5_keep_11 : decode cX5_keep 11 = .ok (.aload_n 0, 1) := by decide +kernel
theorem dX5_keep_12 : decode cX5_keep 12 = .ok (.iconst 1, 1) := by decide +kernel
theorem dX5_keep_13 : decode cX5_keep 13 = .ok (.putfield 46, 3) := by decide +kernel
theorem dX5_keep_16 : decode cX5_keep 16 = .ok (.aload_n 0, 1) := by decide +kernel
theorem dX5_keep_17 : decode cX5_keep 17 = .ok (.getfield 12, 3) := by decide +kernel
theorem dX5_keep_20 : decode cX5_keep 20 = .ok (.invokevirtual 121, 3) := by decide +kernel
theorem dX5_keep_23 : decode cX5_keep 23 = .ok (.ireturn, 1) := by decide +kernel
set_option maxRecDepth 20000 in
theorem ggX5_restore_X0_push : GoodIn wsX5_restore wsX0_push := goodIn_r _ [9, 10, 11, 12, 13, 14, 15, 16, 17, 18, 8, 19, 20, 21, 22, 23, 24, 25, 26, 27, 28, 29, 30, 31, 32, 33, 34, 35, 36, 37, 38, 39, 40, 41, 42, 43, 44, 45, 46, 47, 48, 49, 50, 51, 52, 70, 71, 72, 73, 74, 75, 76, 77, 78, 79, 80, 81, 82, 83, 84, 85, 86, 87, 88, 89] (by decide +kernel) (by decide +kernel)
set_option maxRecDepth 20000 in
theorem gX5_restore_X0_push : GoodIn wsX5_restore (wsV RX5 54 RX0 yX0_push wsX0_push) := goodIn_app (goodIn_of _ (by decide +kernel)) ggX5_restore_X0_push
set_option maxRecDepth 20000 in
theorem ggX5_restore_X1_copyFrom : GoodIn wsX5_restore wsX1_copyFrom := goodIn_r _ [25, 26, 27, 28, 29, 30, 31, 32, 33, 34, 35, 36, 37, 38, 39, 40, 41, 42, 43, 44, 45, 46, 47, 48, 13, 14, 15, 49, 50, 51, 52, 73, 74, 75, 76, 77, 78, 79, 80, 81, 82, 83, 84, 85, 86, 87, 88, 89] (by decide +kernel) (by decide +kernel)
set_option maxRecDepth 20000 in
theorem gX5_restore_X1_copyFrom : GoodIn wsX5_restore (wsV RX5 69 RX1 yX1_copyFrom wsX1_copyFrom) := goodIn_app (goodIn_of _ (by decide +kernel)) ggX5_restore_X1_copyFrom
set_option maxRecDepth 20000 in
theorem ggX5_restore_X1_countCalls : GoodIn wsX5_restore wsX1_countCalls := goodIn_r _ [57, 36, 58, 59, 60, 45, 61, 47, 73, 74, 75, 76, 77, 78, 79, 80, 81, 82, 83, 84, 85, 86, 87, 88, 89] (by decide +kernel) (by decide +kernel)
set_option maxRecDepth 20000 in
theorem gX5_restore_X1_countCalls : GoodIn wsX5_restore (wsV RX5 121 RX1 yX1_countCalls wsX1_countCalls) := goodIn_app (goodIn_of _ (by decide +kernel)) ggX5_restore_X1_countCalls
theorem dX5_restore_0 : decode cX5_restore 0 = .ok (.aload_n 0, 1) := by decide +kernel
theorem dX5_restore_1 : decode cX5_restore 1 = .ok (.getfield 46, 3) := by decide +kernel
theorem dX5_restore_4 : decode cX5_restore 4 = .ok (.ifCond .ne 6, 3) := by decide +kernel
theorem dX5_restore_7 : decode cX5_restore 7 = .ok (.bipush (-6), 2) := by decide +kernel
theorem dX5_restore_9 : decode cX5_restore 9 = .ok (.ireturn, 1) := by decide +kernel
theorem dX5_restore_10 : decode cX5_restore 10 = .ok (.aload_n 0, 1) := by decide +kernel
theorem dX5_restore_11 : decode cX5_restore 11 = .ok (.getfield 35, 3) := by decide +kernel
theorem dX5_restore_14 : decode cX5_restore 14 = .ok (.aload_n 0, 1) := by decide +kernel
theorem dX5_restore_15 : decode cX5_restore 15 = .ok (.getfield 12, 3) := by decide +kernel
theorem dX5_restore_18 : decode cX5_restore 18 = .ok (.invokevirtual 54, 3) := by decide +kernel
theorem dX5_restore_21 : decode cX5_restore 21 = .ok (.aload_n 0, 1) := by decide +kernel
theorem dX5_restore_22 : decode cX5_restore 22 = .ok (.getfield 12, 3) := by decide +kernel
theorem dX5_restore_25 : decode cX5_restore 25 = .ok (.aload_n 0, 1) := by decide +kernel
theorem dX5_restore_26 : decode cX5_restore 26 = .ok (.getfield 19, 3) := by decide +kernel
theorem dX5_restore_29 : decode cX5_restore 29 = .ok (.invokevirtual 69, 3) := by decide +kernel
theorem dX5_restore_32 : decode cX5_restore 32 = .ok (.aload_n 0, 1) := by decide +kernel
theorem dX5_restore_33 : decode cX5_restore 33 = .ok (.getfield 12, 3) := by decide +kernel
theorem dX5_restore_36 : decode cX5_restore 36 = .ok (.invokevirtual 121, 3) := by decide +kernel
theorem dX5_restore_39 : decode cX5_restore 39 = .ok (.ireturn, 1) := by decide +kernel
set_option maxRecDepth 20000 in
theorem ggX5_callOfInlet_X1_isLine : GoodIn wsX5_callOfInlet wsX1_isLine := goodIn_r _ [7, 8, 9, 24, 25, 26, 27, 28, 29, 30, 31, 32, 33, 34, 35, 36, 37, 38, 39] (by decide +kernel) (by decide +kernel)
set_option maxRecDepth 20000 in
theorem gX5_callOfInlet_X1_isLine : GoodIn wsX5_callOfInlet (wsV RX5 124 RX1 yX1_isLine wsX1_isLine) := goodIn_app (goodIn_of _ (by decide +kernel)) ggX5_callOfInlet_X1_isLine
set_option maxRecDepth 20000 in
theorem ggX5_callOfInlet_X4_get : GoodIn wsX5_callOfInlet wsX4_get := goodIn_r _ [14, 15, 40] (by decide +kernel) (by decide +kernel)
set_option maxRecDepth 20000 in
theorem gX5_callOfInlet_X4_get : GoodIn wsX5_callOfInlet (wsV RX5 131 RX4 yX4_get wsX4_get) := goodIn_app (goodIn_of _ (by decide +kernel)) ggX5_callOfInlet_X4_get
theorem dX5_callOfInlet_0 : decode cX5_callOfInlet 0 = .ok (.aload_n 0, 1) := by decide +kernel
theorem dX5_callOfInlet_1 : decode cX5_callOfInlet 1 = .ok (.getfield 12, 3) := by decide +kernel
theorem dX5_callOfInlet_4 : decode cX5_callOfInlet 4 = .ok (.iload_n 1, 1) := by decide +kernel
theorem dX5_callOfInlet_5 : decode cX5_callOfInlet 5 = .ok (.invokevirtual 124, 3) := by decide +kernel
theorem dX5_callOfInlet_8 : decode cX5_callOfInlet 8 = .ok (.ifCond .eq 17, 3) := by decide +kernel
theorem dX5_callOfInlet_11 : decode cX5_callOfInlet 11 = .ok (.aload_n 0, 1) := by decide +kernel
theorem dX5_callOfInlet_12 : decode cX5_callOfInlet 12 = .ok (.getfield 12, 3) := by decide +kernel
theorem dX5_callOfInlet_15 : decode cX5_callOfInlet 15 = .ok (.getfield 127, 3) := by decide +kernel
theorem dX5_callOfInlet_18 : decode cX5_callOfInlet 18 = .ok (.iload_n 1, 1) := by decide +kernel
theorem dX5_callOfInlet_19 : decode cX5_callOfInlet 19 = .ok (.invokevirtual 131, 3) := by decide +kernel
theorem dX5_callOfInlet_22 : decode cX5_callOfInlet 22 = .ok (.goto 4, 3) := by decide +kernel
theorem dX5_callOfInlet_25 : decode cX5_callOfInlet 25 = .ok (.iconst (-1), 1) := by decide +kernel
theorem dX5_callOfInlet_26 : decode cX5_callOfInlet 26 = .ok (.ireturn, 1) := by decide +kernel
set_option maxRecDepth 20000 in
theorem ggX5_callOfOutlet_X1_isLine : GoodIn wsX5_callOfOutlet wsX1_isLine := goodIn_r _ [8, 9, 10, 25, 26, 27, 28, 29, 30, 31, 32, 33, 34, 35, 36, 37, 38, 39, 40] (by decide +kernel) (by decide +kernel)
set_option maxRecDepth 20000 in
theorem gX5_callOfOutlet_X1_isLine : GoodIn wsX5_callOfOutlet (wsV RX5 124 RX1 yX1_isLine wsX1_isLine) := goodIn_app (goodIn_of _ (by decide +kernel)) ggX5_callOfOutlet_X1_isLine
set_option maxRecDepth 20000 in
theorem ggX5_callOfOutlet_X4_get : GoodIn wsX5_callOfOutlet wsX4_get := goodIn_r _ [15, 16, 41] (by decide +kernel) (by decide +kernel)
set_option maxRecDepth 20000 in
theorem gX5_callOfOutlet_X4_get : GoodIn wsX5_callOfOutlet (wsV RX5 131 RX4 yX4_get wsX4_get) := goodIn_app (goodIn_of _ (by decide +kernel)) ggX5_callOfOutlet_X4_get
theorem dX5_callOfOutlet_0 : decode cX5_callOfOutlet 0 = .ok (.aload_n 0, 1) := by decide +kernel
theorem dX5_callOfOutlet_1 : decode cX5_callOfOutlet 1 = .ok (.getfield 12, 3) := by decide +kernel
theorem dX5_callOfOutlet_4 : decode cX5_callOfOutlet 4 = .ok (.iload_n 1, 1) := by decide +kernel
theorem dX5_callOfOutlet_5 : decode cX5_callOfOutlet 5 = .ok (.invokevirtual 124, 3) := by decide +kernel
theorem dX5_callOfOutlet_8 : decode cX5_callOfOutlet 8 = .ok (.ifCond .ne 5, 3) := by decide +kernel
theorem dX5_callOfOutlet_11 : decode cX5_callOfOutlet 11 = .ok (.iconst (-1), 1) := by decide +kernel
theorem dX5_callOfOutlet_12 : decode cX5_callOfOutlet 12 = .ok (.ireturn, 1) := by decide +kernel
theorem dX5_callOfOutlet_13 : decode cX5_callOfOutlet 13 = .ok (.aload_n 0, 1) := by decide +kernel
theorem dX5_callOfOutlet_14 : decode cX5_callOfOutlet 14 = .ok (.getfield 12, 3) := by decide +kernel
theorem dX5_callOfOutlet_17 : decode cX5_callOfOutlet 17 = .ok (.getfield 127, 3) := by decide +kernel
theorem dX5_callOfOutlet_20 : decode cX5_callOfOutlet 20 = .ok (.aload_n 0, 1) := by decide +kernel
theorem dX5_callOfOutlet_21 : decode cX5_callOfOutlet 21 = .ok (.getfield 12, 3) := by decide +kernel
theorem dX5_callOfOutlet_24 : decode cX5_callOfOutlet 24 = .ok (.getfield 136, 3) := by decide +kernel
theorem dX5_callOfOutlet_27 : decode cX5_callOfOutlet 27 = .ok (.iload_n 1, 1) := by decide +kernel
theorem dX5_callOfOutlet_28 : decode cX5_callOfOutlet 28 = .ok (.invokevirtual 131, 3) := by decide +kernel
theorem dX5_callOfOutlet_31 : decode cX5_callOfOutlet 31 = .ok (.invokevirtual 131, 3) := by decide +kernel
theorem dX5_callOfOutlet_34 : decode cX5_callOfOutlet 34 = .ok (.ireturn, 1) := by decide +kernel
set_option maxRecDepth 20000 in
theorem ggX5_inletOf_X1_findInlet : GoodIn wsX5_inletOf wsX1_findInlet := goodIn_r _ [6, 7, 8, 9, 10, 11, 12, 13, 22, 23, 24, 25, 26, 27, 28, 29, 30, 31, 32, 33, 34, 35, 36, 37, 38] (by decide +kernel) (by decide +kernel)
set_option maxRecDepth 20000 in
theorem gX5_inletOf_X1_findInlet : GoodIn wsX5_inletOf (wsV RX5 139 RX1 yX1_findInlet wsX1_findInlet) := goodIn_app (goodIn_of _ (by decide +kernel)) ggX5_inletOf_X1_findInlet
theorem dX5_inletOf_0 : decode cX5_inletOf 0 = .ok (.aload_n 0, 1) := by decide +kernel
theorem dX5_inletOf_1 : decode cX5_inletOf 1 = .ok (.getfield 12, 3) := by decide +kernel
theorem dX5_inletOf_4 : decode cX5_inletOf 4 = .ok (.iload_n 1, 1) := by decide +kernel
theorem dX5_inletOf_5 : decode cX5_inletOf 5 = .ok (.invokevirtual 139, 3) := by decide +kernel
theorem dX5_inletOf_8 : decode cX5_inletOf 8 = .ok (.ireturn, 1) := by decide +kernel
set_option maxRecDepth 20000 in
theorem ggX5_outletOf_X1_findInlet : GoodIn wsX5_outletOf wsX1_findInlet := goodIn_r _ [7, 8, 9, 10, 11, 12, 13, 14, 24, 25, 26, 27, 28, 29, 30, 31, 32, 33, 34, 35, 36, 37, 38, 39, 40] (by decide +kernel) (by decide +kernel)
set_option maxRecDepth 20000 in
theorem gX5_outletOf_X1_findInlet : GoodIn wsX5_outletOf (wsV RX5 139 RX1 yX1_findInlet wsX1_findInlet) := goodIn_app (goodIn_of _ (by decide +kernel)) ggX5_outletOf_X1_findInlet
set_option maxRecDepth 20000 in
theorem ggX5_outletOf_X4_get : GoodIn wsX5_outletOf wsX4_get := goodIn_r _ [13, 14, 40] (by decide +kernel) (by decide +kernel)
set_option maxRecDepth 20000 in
theorem gX5_outletOf_X4_get : GoodIn wsX5_outletOf (wsV RX5 131 RX4 yX4_get wsX4_get) := goodIn_app (goodIn_of _ (by decide +kernel)) ggX5_outletOf_X4_get
theorem dX5_outletOf_0 : decode cX5_outletOf 0 = .ok (.aload_n 0, 1) := by decide +kernel
theorem dX5_outletOf_1 : decode cX5_outletOf 1 = .ok (.getfield 12, 3) := by decide +kernel
theorem dX5_outletOf_4 : decode cX5_outletOf 4 = .ok (.iload_n 1, 1) := by decide +kernel
theorem dX5_outletOf_5 : decode cX5_outletOf 5 = .ok (.invokevirtual 139, 3) := by decide +kernel
theorem dX5_outletOf_8 : decode cX5_outletOf 8 = .ok (.istore_n 2, 1) := by decide +kernel
theorem dX5_outletOf_9 : decode cX5_outletOf 9 = .ok (.iload_n 2, 1) := by decide +kernel
theorem dX5_outletOf_10 : decode cX5_outletOf 10 = .ok (.ifCond .ge 7, 3) := by decide +kernel
theorem dX5_outletOf_13 : decode cX5_outletOf 13 = .ok (.iconst (-1), 1) := by decide +kernel
theorem dX5_outletOf_14 : decode cX5_outletOf 14 = .ok (.goto 14, 3) := by decide +kernel
theorem dX5_outletOf_17 : decode cX5_outletOf 17 = .ok (.aload_n 0, 1) := by decide +kernel
theorem dX5_outletOf_18 : decode cX5_outletOf 18 = .ok (.getfield 12, 3) := by decide +kernel
theorem dX5_outletOf_21 : decode cX5_outletOf 21 = .ok (.getfield 142, 3) := by decide +kernel
theorem dX5_outletOf_24 : decode cX5_outletOf 24 = .ok (.iload_n 2, 1) := by decide +kernel
theorem dX5_outletOf_25 : decode cX5_outletOf 25 = .ok (.invokevirtual 131, 3) := by decide +kernel
theorem dX5_outletOf_28 : decode cX5_outletOf 28 = .ok (.ireturn, 1) := by decide +kernel
set_option maxRecDepth 20000 in
theorem ggX5_middleOf_X1_findInlet : GoodIn wsX5_middleOf wsX1_findInlet := goodIn_r _ [7, 8, 9, 10, 11, 12, 13, 14, 24, 25, 26, 27, 28, 29, 30, 31, 32, 33, 34, 35, 36, 37, 38, 39, 40] (by decide +kernel) (by decide +kernel)
set_option maxRecDepth 20000 in
theorem gX5_middleOf_X1_findInlet : GoodIn wsX5_middleOf (wsV RX5 139 RX1 yX1_findInlet wsX1_findInlet) := goodIn_app (goodIn_of _ (by decide +kernel)) ggX5_middleOf_X1_findInlet
set_option maxRecDepth 20000 in
theorem ggX5_middleOf_X4_get : GoodIn wsX5_middleOf wsX4_get := goodIn_r _ [13, 14, 40] (by decide +kernel) (by decide +kernel)
set_option maxRecDepth 20000 in
theorem gX5_middleOf_X4_get : GoodIn wsX5_middleOf (wsV RX5 131 RX4 yX4_get wsX4_get) := goodIn_app (goodIn_of _ (by decide +kernel)) ggX5_middleOf_X4_get
theorem dX5_middleOf_0 : decode cX5_middleOf 0 = .ok (.aload_n 0, 1) := by decide +kernel
theorem dX5_middleOf_1 : decode cX5_middleOf 1 = .ok (.getfield 12, 3) := by decide +kernel
theorem dX5_middleOf_4 : decode cX5_middleOf 4 = .ok (.iload_n 1, 1) := by decide +kernel
theorem dX5_middleOf_5 : decode cX5_middleOf 5 = .ok (.invokevirtual 139, 3) := by decide +kernel
theorem dX5_middleOf_8 : decode cX5_middleOf 8 = .ok (.istore_n 2, 1) := by decide +kernel
theorem dX5_middleOf_9 : decode cX5_middleOf 9 = .ok (.iload_n 2, 1) := by decide +kernel
theorem dX5_middleOf_10 : decode cX5_middleOf 10 = .ok (.ifCond .ge 7, 3) := by decide +kernel
theorem dX5_middleOf_13 : decode cX5_middleOf 13 = .ok (.iconst (-1), 1) := by decide +kernel
theorem dX5_middleOf_14 : decode cX5_middleOf 14 = .ok (.goto 14, 3) := by decide +kernel
theorem dX5_middleOf_17 : decode cX5_middleOf 17 = .ok (.aload_n 0, 1) := by decide +kernel
theorem dX5_middleOf_18 : decode cX5_middleOf 18 = .ok (.getfield 12, 3) := by decide +kernel
theorem dX5_middleOf_21 : decode cX5_middleOf 21 = .ok (.getfield 145, 3) := by decide +kernel
theorem dX5_middleOf_24 : decode cX5_middleOf 24 = .ok (.iload_n 2, 1) := by decide +kernel
theorem dX5_middleOf_25 : decode cX5_middleOf 25 = .ok (.invokevirtual 131, 3) := by decide +kernel
theorem dX5_middleOf_28 : decode cX5_middleOf 28 = .ok (.ireturn, 1) := by decide +kernel
set_option maxRecDepth 20000 in
theorem ggX5_onFirstLink_X1_isBoard : GoodIn wsX5_onFirstLink wsX1_isBoard := goodIn_r _ [8, 9, 33, 34, 35, 36, 37, 38, 39, 40, 41, 42, 43, 44, 45, 46, 47, 48] (by decide +kernel) (by decide +kernel)
set_option maxRecDepth 20000 in
theorem gX5_onFirstLink_X1_isBoard : GoodIn wsX5_onFirstLink (wsV RX5 148 RX1 yX1_isBoard wsX1_isBoard) := goodIn_app (goodIn_of _ (by decide +kernel)) ggX5_onFirstLink_X1_isBoard
set_option maxRecDepth 20000 in
theorem ggX5_onFirstLink_X1_isMiddle : GoodIn wsX5_onFirstLink wsX1_isMiddle := goodIn_r _ [13, 14, 33, 34, 35, 36, 37, 38, 39, 40, 41, 42, 43, 44, 45, 46, 47, 48] (by decide +kernel) (by decide +kernel)
set_option maxRecDepth 20000 in
theorem gX5_onFirstLink_X1_isMiddle : GoodIn wsX5_onFirstLink (wsV RX5 151 RX1 yX1_isMiddle wsX1_isMiddle) := goodIn_app (goodIn_of _ (by decide +kernel)) ggX5_onFirstLink_X1_isMiddle
set_option maxRecDepth 20000 in
theorem ggX5_onFirstLink_X5_link : GoodIn wsX5_onFirstLink wsX5_link := goodIn_r _ [18] (by decide +kernel) (by decide +kernel)
set_option maxRecDepth 20000 in
theorem gX5_onFirstLink_X5_link : GoodIn wsX5_onFirstLink (va_wsS RX5 157 yX5_link wsX5_link) := goodIn_app (goodIn_of _ (by decide +kernel)) ggX5_onFirstLink_X5_link
set_option maxRecDepth 20000 in
theorem ggX5_onFirstLink_X4_get : GoodIn wsX5_onFirstLink wsX4_get := goodIn_r _ [23, 24, 49] (by decide +kernel) (by decide +kernel)
set_option maxRecDepth 20000 in
theorem gX5_onFirstLink_X4_get : GoodIn wsX5_onFirstLink (wsV RX5 131 RX4 yX4_get wsX4_get) := goodIn_app (goodIn_of _ (by decide +kernel)) ggX5_onFirstLink_X4_get
theorem dX5_onFirstLink_0 : decode cX5_onFirstLink 0 = .ok (.aload_n 0, 1) := by decide +kernel
theorem dX5_onFirstLink_1 : decode cX5_onFirstLink 1 = .ok (.getfield 12, 3) := by decide +kernel
theorem dX5_onFirstLink_4 : decode cX5_onFirstLink 4 = .ok (.iload_n 1, 1) := by decide +kernel
theorem dX5_onFirstLink_5 : decode cX5_onFirstLink 5 = .ok (.invokevirtual 148, 3) := by decide +kernel
theorem dX5_onFirstLink_8 : decode cX5_onFirstLink 8 = .ok (.ifCond .eq 14, 3) := by decide +kernel
theorem dX5_onFirstLink_11 : decode cX5_onFirstLink 11 = .ok (.aload_n 0, 1) := by decide +kernel
theorem dX5_onFirstLink_12 : decode cX5_onFirstLink 12 = .ok (.getfield 12, 3) := by decide +kernel
theorem dX5_onFirstLink_15 : decode cX5_onFirstLink 15 = .ok (.iload_n 2, 1) := by decide +kernel
theorem dX5_onFirstLink_16 : decode cX5_onFirstLink 16 = .ok (.invokevirtual 151, 3) := by decide +kernel
theorem dX5_onFirstLink_19 : decode cX5_onFirstLink 19 = .ok (.ifCond .ne 5, 3) := by decide +kernel
theorem dX5_onFirstLink_22 : decode cX5_onFirstLink 22 = .ok (.iconst (-1), 1) := by decide +kernel
theorem dX5_onFirstLink_23 : decode cX5_onFirstLink 23 = .ok (.ireturn, 1) := by decide +kernel
theorem dX5_onFirstLink_24 : decode cX5_onFirstLink 24 = .ok (.aload_n 0, 1) := by decide +kernel
theorem dX5_onFirstLink_25 : decode cX5_onFirstLink 25 = .ok (.getfield 12, 3) := by decide +kernel
theorem dX5_onFirstLink_28 : decode cX5_onFirstLink 28 = .ok (.getfield 127, 3) := by decide +kernel
theorem dX5_onFirstLink_31 : decode cX5_onFirstLink 31 = .ok (.aload_n 0, 1) := by decide +kernel
theorem dX5_onFirstLink_32 : decode cX5_onFirstLink 32 = .ok (.getfield 12, 3) := by decide +kernel
theorem dX5_onFirstLink_35 : decode cX5_onFirstLink 35 = .ok (.getfield 154, 3) := by decide +kernel
theorem dX5_onFirstLink_38 : decode cX5_onFirstLink 38 = .ok (.iload_n 1, 1) := by decide +kernel
theorem dX5_onFirstLink_39 : decode cX5_onFirstLink 39 = .ok (.iload_n 2, 1) := by decide +kernel
theorem dX5_onFirstLink_40 : decode cX5_onFirstLink 40 = .ok (.invokestatic 157, 3) := by decide +kernel
theorem dX5_onFirstLink_43 : decode cX5_onFirstLink 43 = .ok (.invokevirtual 131, 3) := by decide +kernel
theorem dX5_onFirstLink_46 : decode cX5_onFirstLink 46 = .ok (.invokevirtual 131, 3) := by decide +kernel
theorem dX5_onFirstLink_49 : decode cX5_onFirstLink 49 = .ok (.ireturn, 1) := by decide +kernel
set_option maxRecDepth 20000 in
theorem ggX5_onLastLink_X1_isMiddle : GoodIn wsX5_onLastLink wsX1_isMiddle := goodIn_r _ [8, 9, 33, 34, 35, 36, 37, 38, 39, 40, 41, 42, 43, 44, 45, 46, 47, 48] (by decide +kernel) (by decide +kernel)
set_option maxRecDepth 20000 in
theorem gX5_onLastLink_X1_isMiddle : GoodIn wsX5_onLastLink (wsV RX5 151 RX1 yX1_isMiddle wsX1_isMiddle) := goodIn_app (goodIn_of _ (by decide +kernel)) ggX5_onLastLink_X1_isMiddle
set_option maxRecDepth 20000 in
theorem ggX5_onLastLink_X1_isBoard : GoodIn wsX5_onLastLink wsX1_isBoard := goodIn_r _ [13, 14, 33, 34, 35, 36, 37, 38, 39, 40, 41, 42, 43, 44, 45, 46, 47, 48] (by decide +kernel) (by decide +kernel)
set_option maxRecDepth 20000 in
theorem gX5_onLastLink_X1_isBoard : GoodIn wsX5_onLastLink (wsV RX5 148 RX1 yX1_isBoard wsX1_isBoard) := goodIn_app (goodIn_of _ (by decide +kernel)) ggX5_onLastLink_X1_isBoard
set_option maxRecDepth 20000 in
theorem ggX5_onLastLink_X5_link : GoodIn wsX5_onLastLink wsX5_link := goodIn_r _ [18] (by decide +kernel) (by decide +kernel)
set_option maxRecDepth 20000 in
theorem gX5_onLastLink_X5_link : GoodIn wsX5_onLastLink (va_wsS RX5 157 yX5_link wsX5_link) := goodIn_app (goodIn_of _ (by decide +kernel)) ggX5_onLastLink_X5_link
set_option maxRecDepth 20000 in
theorem ggX5_onLastLink_X4_get : GoodIn wsX5_onLastLink wsX4_get := goodIn_r _ [23, 24, 49] (by decide +kernel) (by decide +kernel)
set_option maxRecDepth 20000 in
theorem gX5_onLastLink_X4_get : GoodIn wsX5_onLastLink (wsV RX5 131 RX4 yX4_get wsX4_get) := goodIn_app (goodIn_of _ (by decide +kernel)) ggX5_onLastLink_X4_get
theorem dX5_onLastLink_0 : decode cX5_onLastLink 0 = .ok (.aload_n 0, 1) := by decide +kernel
theorem dX5_onLastLink_1 : decode cX5_onLastLink 1 = .ok (.getfield 12, 3) := by decide +kernel
theorem dX5_onLastLink_4 : decode cX5_onLastLink 4 = .ok (.iload_n 1, 1) := by decide +kernel
theorem dX5_onLastLink_5 : decode cX5_onLastLink 5 = .ok (.invokevirtual 151, 3) := by decide +kernel
theorem dX5_onLastLink_8 : decode cX5_onLastLink 8 = .ok (.ifCond .eq 14, 3) := by decide +kernel
theorem dX5_onLastLink_11 : decode cX5_onLastLink 11 = .ok (.aload_n 0, 1) := by decide +kernel
theorem dX5_onLastLink_12 : decode cX5_onLastLink 12 = .ok (.getfield 12, 3) := by decide +kernel
theorem dX5_onLastLink_15 : decode cX5_onLastLink 15 = .ok (.iload_n 2, 1) := by decide +kernel
theorem dX5_onLastLink_16 : decode cX5_onLastLink 16 = .ok (.invokevirtual 148, 3) := by decide +kernel
theorem dX5_onLastLink_19 : decode cX5_onLastLink 19 = .ok (.ifCond .ne 5, 3) := by decide +kernel
theorem dX5_onLastLink_22 : decode cX5_onLastLink 22 = .ok (.iconst (-1), 1) := by decide +kernel
theorem dX5_onLastLink_23 : decode cX5_onLastLink 23 = .ok (.ireturn, 1) := by decide +kernel
theorem dX5_onLastLink_24 : decode cX5_onLastLink 24 = .ok (.aload_n 0, 1) := by decide +kernel
theorem dX5_onLastLink_25 : decode cX5_onLastLink 25 = .ok (.getfield 12, 3) := by decide +kernel
theorem dX5_onLastLink_28 : decode cX5_onLastLink 28 = .ok (.getfield 127, 3) := by decide +kernel
theorem dX5_onLastLink_31 : decode cX5_onLastLink 31 = .ok (.aload_n 0, 1) := by decide +kernel
theorem dX5_onLastLink_32 : decode cX5_onLastLink 32 = .ok (.getfield 12, 3) := by decide +kernel
theorem dX5_onLastLink_35 : decode cX5_onLastLink 35 = .ok (.getfield 161, 3) := by decide +kernel
theorem dX5_onLastLink_38 : decode cX5_onLastLink 38 = .ok (.iload_n 2, 1) := by decide +kernel
theorem dX5_onLastLink_39 : decode cX5_onLastLink 39 = .ok (.iload_n 1, 1) := by decide +kernel
theorem dX5_onLastLink_40 : decode cX5_onLastLink 40 = .ok (.invokestatic 157, 3) := by decide +kernel
theorem dX5_onLastLink_43 : decode cX5_onLastLink 43 = .ok (.invokevirtual 131, 3) := by decide +kernel
theorem dX5_onLastLink_46 : decode cX5_onLastLink 46 = .ok (.invokevirtual 131, 3) := by decide +kernel
theorem dX5_onLastLink_49 : decode cX5_onLastLink 49 = .ok (.ireturn, 1) := by decide +kernel
set_option maxRecDepth 20000 in
theorem ggX5_load_X1_isMiddle : GoodIn wsX5_load wsX1_isMiddle := goodIn_r _ [6, 7, 31, 32, 33, 34, 35, 36, 37, 38, 39, 40, 41, 42, 43, 44, 45, 46] (by decide +kernel) (by decide +kernel)
set_option maxRecDepth 20000 in
theorem gX5_load_X1_isMiddle : GoodIn wsX5_load (wsV RX5 151 RX1 yX1_isMiddle wsX1_isMiddle) := goodIn_app (goodIn_of _ (by decide +kernel)) ggX5_load_X1_isMiddle
set_option maxRecDepth 20000 in
theorem ggX5_load_X1_loadOf : GoodIn wsX5_load wsX1_loadOf := goodIn_r _ [11, 12, 13, 14, 15, 16, 17, 18, 19, 20, 21, 22, 31, 32, 33, 34, 35, 36, 37, 38, 39, 40, 41, 42, 43, 44, 45, 46, 47] (by decide +kernel) (by decide +kernel)
set_option maxRecDepth 20000 in
theorem gX5_load_X1_loadOf : GoodIn wsX5_load (wsV RX5 164 RX1 yX1_loadOf wsX1_loadOf) := goodIn_app (goodIn_of _ (by decide +kernel)) ggX5_load_X1_loadOf
theorem dX5_load_0 : decode cX5_load 0 = .ok (.aload_n 0, 1) := by decide +kernel
theorem dX5_load_1 : decode cX5_load 1 = .ok (.getfield 12, 3) := by decide +kernel
theorem dX5_load_4 : decode cX5_load 4 = .ok (.iload_n 1, 1) := by decide +kernel
theorem dX5_load_5 : decode cX5_load 5 = .ok (.invokevirtual 151, 3) := by decide +kernel
theorem dX5_load_8 : decode cX5_load 8 = .ok (.ifCond .eq 14, 3) := by decide +kernel
theorem dX5_load_11 : decode cX5_load 11 = .ok (.aload_n 0, 1) := by decide +kernel
theorem dX5_load_12 : decode cX5_load 12 = .ok (.getfield 12, 3) := by decide +kernel
theorem dX5_load_15 : decode cX5_load 15 = .ok (.iload_n 1, 1) := by decide +kernel
theorem dX5_load_16 : decode cX5_load 16 = .ok (.invokevirtual 164, 3) := by decide +kernel
theorem dX5_load_19 : decode cX5_load 19 = .ok (.goto 4, 3) := by decide +kernel
theorem dX5_load_22 : decode cX5_load 22 = .ok (.iconst (-1), 1) := by decide +kernel
theorem dX5_load_23 : decode cX5_load 23 = .ok (.ireturn, 1) := by decide +kernel
set_option maxRecDepth 20000 in
theorem ggX5_freeForFirst_X1_isBoard : GoodIn wsX5_freeForFirst wsX1_isBoard := goodIn_r _ [7, 8, 32, 33, 34, 35, 36, 37, 38, 39, 40, 41, 42, 43, 44, 45, 46, 47] (by decide +kernel) (by decide +kernel)
set_option maxRecDepth 20000 in
theorem gX5_freeForFirst_X1_isBoard : GoodIn wsX5_freeForFirst (wsV RX5 148 RX1 yX1_isBoard wsX1_isBoard) := goodIn_app (goodIn_of _ (by decide +kernel)) ggX5_freeForFirst_X1_isBoard
set_option maxRecDepth 20000 in
theorem ggX5_freeForFirst_X1_freeOnLinks : GoodIn wsX5_freeForFirst wsX1_freeOnLinks := goodIn_r _ [12, 13, 14, 15, 16, 17, 18, 19, 20, 21, 22, 23, 32, 33, 34, 35, 36, 37, 38, 39, 40, 41, 42, 43, 44, 45, 46, 47, 48] (by decide +kernel) (by decide +kernel)
set_option maxRecDepth 20000 in
theorem gX5_freeForFirst_X1_freeOnLinks : GoodIn wsX5_freeForFirst (wsV RX5 167 RX1 yX1_freeOnLinks wsX1_freeOnLinks) := goodIn_app (goodIn_of _ (by decide +kernel)) ggX5_freeForFirst_X1_freeOnLinks
theorem dX5_freeForFirst_0 : decode cX5_freeForFirst 0 = .ok (.aload_n 0, 1) := by decide +kernel
theorem dX5_freeForFirst_1 : decode cX5_freeForFirst 1 = .ok (.getfield 12, 3) := by decide +kernel
theorem dX5_freeForFirst_4 : decode cX5_freeForFirst 4 = .ok (.iload_n 1, 1) := by decide +kernel
theorem dX5_freeForFirst_5 : decode cX5_freeForFirst 5 = .ok (.invokevirtual 148, 3) := by decide +kernel
theorem dX5_freeForFirst_8 : decode cX5_freeForFirst 8 = .ok (.ifCond .eq 21, 3) := by decide +kernel
theorem dX5_freeForFirst_11 : decode cX5_freeForFirst 11 = .ok (.aload_n 0, 1) := by decide +kernel
theorem dX5_freeForFirst_12 : decode cX5_freeForFirst 12 = .ok (.getfield 12, 3) := by decide +kernel
theorem dX5_freeForFirst_15 : decode cX5_freeForFirst 15 = .ok (.aload_n 0, 1) := by decide +kernel
theorem dX5_freeForFirst_16 : decode cX5_freeForFirst 16 = .ok (.getfield 12, 3) := by decide +kernel
theorem dX5_freeForFirst_19 : decode cX5_freeForFirst 19 = .ok (.getfield 154, 3) := by decide +kernel
theorem dX5_freeForFirst_22 : decode cX5_freeForFirst 22 = .ok (.iload_n 1, 1) := by decide +kernel
theorem dX5_freeForFirst_23 : decode cX5_freeForFirst 23 = .ok (.invokevirtual 167, 3) := by decide +kernel
theorem dX5_freeForFirst_26 : decode cX5_freeForFirst 26 = .ok (.goto 4, 3) := by decide +kernel
theorem dX5_freeForFirst_29 : decode cX5_freeForFirst 29 = .ok (.iconst (-1), 1) := by decide +kernel
theorem dX5_freeForFirst_30 : decode cX5_freeForFirst 30 = .ok (.ireturn, 1) := by decide +kernel
set_option maxRecDepth 20000 in
theorem ggX5_freeForLast_X1_isBoard : GoodIn wsX5_freeForLast wsX1_isBoard := goodIn_r _ [7, 8, 32, 33, 34, 35, 36, 37, 38, 39, 40, 41, 42, 43, 44, 45, 46, 47] (by decide +kernel) (by decide +kernel)
set_option maxRecDepth 20000 in
theorem gX5_freeForLast_X1_isBoard : GoodIn wsX5_freeForLast (wsV RX5 148 RX1 yX1_isBoard wsX1_isBoard) := goodIn_app (goodIn_of _ (by decide +kernel)) ggX5_freeForLast_X1_isBoard
set_option maxRecDepth 20000 in
theorem ggX5_freeForLast_X1_freeOnLinks : GoodIn wsX5_freeForLast wsX1_freeOnLinks := goodIn_r _ [12, 13, 14, 15, 16, 17, 18, 19, 20, 21, 22, 23, 32, 33, 34, 35, 36, 37, 38, 39, 40, 41, 42, 43, 44, 45, 46, 47, 48] (by decide +kernel) (by decide +kernel)
set_option maxRecDepth 20000 in
theorem gX5_freeForLast_X1_freeOnLinks : GoodIn wsX5_freeForLast (wsV RX5 167 RX1 yX1_freeOnLinks wsX1_freeOnLinks) := goodIn_app (goodIn_of _ (by decide +kernel)) ggX5_freeForLast_X1_freeOnLinks
theorem dX5_freeForLast_0 : decode cX5_freeForLast 0 = .ok (.aload_n 0, 1) := by decide +kernel
theorem dX5_freeForLast_1 : decode cX5_freeForLast 1 = .ok (.getfield 12, 3) := by decide +kernel
theorem dX5_freeForLast_4 : decode cX5_freeForLast 4 = .ok (.iload_n 1, 1) := by decide +kernel
theorem dX5_freeForLast_5 : decode cX5_freeForLast 5 = .ok (.invokevirtual 148, 3) := by decide +kernel
theorem dX5_freeForLast_8 : decode cX5_freeForLast 8 = .ok (.ifCond .eq 21, 3) := by decide +kernel
theorem dX5_freeForLast_11 : decode cX5_freeForLast 11 = .ok (.aload_n 0, 1) := by decide +kernel
theorem dX5_freeForLast_12 : decode cX5_freeForLast 12 = .ok (.getfield 12, 3) := by decide +kernel
theorem dX5_freeForLast_15 : decode cX5_freeForLast 15 = .ok (.aload_n 0, 1) := by decide +kernel
theorem dX5_freeForLast_16 : decode cX5_freeForLast 16 = .ok (.getfield 12, 3) := by decide +kernel
theorem dX5_freeForLast_19 : decode cX5_freeForLast 19 = .ok (.getfield 161, 3) := by decide +kernel
theorem dX5_freeForLast_22 : decode cX5_freeForLast 22 = .ok (.iload_n 1, 1) := by decide +kernel
theorem dX5_freeForLast_23 : decode cX5_freeForLast 23 = .ok (.invokevirtual 167, 3) := by decide +kernel
theorem dX5_freeForLast_26 : decode cX5_freeForLast 26 = .ok (.goto 4, 3) := by decide +kernel
theorem dX5_freeForLast_29 : decode cX5_freeForLast 29 = .ok (.iconst (-1), 1) := by decide +kernel
theorem dX5_freeForLast_30 : decode cX5_freeForLast 30 = .ok (.ireturn, 1) := by decide +kernel
theorem dX5_inService_0 : decode cX5_inService 0 = .ok (.aload_n 0, 1) := by decide +kernel
theorem dX5_inService_1 : decode cX5_inService 1 = .ok (.getfield 12, 3) := by decide +kernel
theorem dX5_inService_4 : decode cX5_inService 4 = .ok (.getfield 171, 3) := by decide +kernel
theorem dX5_inService_7 : decode cX5_inService 7 = .ok (.ireturn, 1) := by decide +kernel
set_option maxRecDepth 20000 in
theorem ggX5_total_X1_countCalls : GoodIn wsX5_total wsX1_countCalls := goodIn_r _ [19, 20, 21, 22, 23, 24, 25, 26, 35, 36, 37, 38, 39, 40, 41, 42, 43, 44, 45, 46, 47, 48, 49, 50, 60] (by decide +kernel) (by decide +kernel)
set_option maxRecDepth 20000 in
theorem gX5_total_X1_countCalls : GoodIn wsX5_total (wsV RX5 121 RX1 yX1_countCalls wsX1_countCalls) := goodIn_app (goodIn_of _ (by decide +kernel)) ggX5_total_X1_countCalls
theorem dX5_total_0 : decode cX5_total 0 = .ok (.iload_n 1, 1) := by decide +kernel
theorem dX5_total_1 : decode cX5_total 1 = .ok (.tableswitch 159 0 11 #[63, 71, 79, 87, 95, 103, 111, 119, 127, 135, 143, 151], 63) := by decide +kernel
theorem dX5_total_64 : decode cX5_total 64 = .ok (.aload_n 0, 1) := by decide +kernel
theorem dX5_total_65 : decode cX5_total 65 = .ok (.getfield 12, 3) := by decide +kernel
theorem dX5_total_68 : decode cX5_total 68 = .ok (.getfield 174, 3) := by decide +kernel
theorem dX5_total_71 : decode cX5_total 71 = .ok (.ireturn, 1) := by decide +kernel
theorem dX5_total_72 : decode cX5_total 72 = .ok (.aload_n 0, 1) := by decide +kernel
theorem dX5_total_73 : decode cX5_total 73 = .ok (.getfield 12, 3) := by decide +kernel
theorem dX5_total_76 : decode cX5_total 76 = .ok (.getfield 177, 3) := by decide +kernel
theorem dX5_total_79 : decode cX5_total 79 = .ok (.ireturn, 1) := by decide +kernel
theorem dX5_total_80 : decode cX5_total 80 = .ok (.aload_n 0, 1) := by decide +kernel
theorem dX5_total_81 : decode cX5_total 81 = .ok (.getfield 12, 3) := by decide +kernel
theorem dX5_total_84 : decode cX5_total 84 = .ok (.getfield 180, 3) := by decide +kernel
theorem dX5_total_87 : decode cX5_total 87 = .ok (.ireturn, 1) := by decide +kernel
theorem dX5_total_88 : decode cX5_total 88 = .ok (.aload_n 0, 1) := by decide +kernel
theorem dX5_total_89 : decode cX5_total 89 = .ok (.getfield 12, 3) := by decide +kernel
theorem dX5_total_92 : decode cX5_total 92 = .ok (.getfield 62, 3) := by decide +kernel
theorem dX5_total_95 : decode cX5_total 95 = .ok (.ireturn, 1) := by decide +kernel
theorem dX5_total_96 : decode cX5_total 96 = .ok (.aload_n 0, 1) := by decide +kernel
theorem dX5_total_97 : decode cX5_total 97 = .ok (.getfield 12, 3) := by decide +kernel
theorem dX5_total_100 : decode cX5_total 100 = .ok (.getfield 66, 3) := by decide +kernel
theorem dX5_total_103 : decode cX5_total 103 = .ok (.ireturn, 1) := by decide +kernel
theorem dX5_total_104 : decode cX5_total 104 = .ok (.aload_n 0, 1) := by decide +kernel
theorem dX5_total_105 : decode cX5_total 105 = .ok (.getfield 12, 3) := by decide +kernel
theorem dX5_total_108 : decode cX5_total 108 = .ok (.invokevirtual 121, 3) := by decide +kernel
theorem dX5_total_111 : decode cX5_total 111 = .ok (.ireturn, 1) := by decide +kernel
theorem dX5_total_112 : decode cX5_total 112 = .ok (.aload_n 0, 1) := by decide +kernel
theorem dX5_total_113 : decode cX5_total 113 = .ok (.getfield 12, 3) := by decide +kernel
theorem dX5_total_116 : decode cX5_total 116 = .ok (.getfield 183, 3) := by decide +kernel
theorem dX5_total_119 : decode cX5_total 119 = .ok (.ireturn, 1) := by decide +kernel
theorem dX5_total_120 : decode cX5_total 120 = .ok (.aload_n 0, 1) := by decide +kernel
theorem dX5_total_121 : decode cX5_total 121 = .ok (.getfield 12, 3) := by decide +kernel
theorem dX5_total_124 : decode cX5_total 124 = .ok (.getfield 186, 3) := by decide +kernel
theorem dX5_total_127 : decode cX5_total 127 = .ok (.ireturn, 1) := by decide +kernel
theorem dX5_total_128 : decode cX5_total 128 = .ok (.aload_n 0, 1) := by decide +kernel
theorem dX5_total_129 : decode cX5_total 129 = .ok (.getfield 12, 3) := by decide +kernel
theorem dX5_total_132 : decode cX5_total 132 = .ok (.getfield 189, 3) := by decide +kernel
theorem dX5_total_135 : decode cX5_total 135 = .ok (.ireturn, 1) := by decide +kernel
theorem dX5_total_136 : decode cX5_total 136 = .ok (.aload_n 0, 1) := by decide +kernel
theorem dX5_total_137 : decode cX5_total 137 = .ok (.getfield 12, 3) := by decide +kernel
theorem dX5_total_140 : decode cX5_total 140 = .ok (.getfield 192, 3) := by decide +kernel
theorem dX5_total_143 : decode cX5_total 143 = .ok (.ireturn, 1) := by decide +kernel
theorem dX5_total_144 : decode cX5_total 144 = .ok (.aload_n 0, 1) := by decide +kernel
theorem dX5_total_145 : decode cX5_total 145 = .ok (.getfield 35, 3) := by decide +kernel
theorem dX5_total_148 : decode cX5_total 148 = .ok (.getfield 195, 3) := by decide +kernel
theorem dX5_total_151 : decode cX5_total 151 = .ok (.ireturn, 1) := by decide +kernel
theorem dX5_total_152 : decode cX5_total 152 = .ok (.aload_n 0, 1) := by decide +kernel
theorem dX5_total_153 : decode cX5_total 153 = .ok (.getfield 42, 3) := by decide +kernel
theorem dX5_total_156 : decode cX5_total 156 = .ok (.getfield 97, 3) := by decide +kernel
theorem dX5_total_159 : decode cX5_total 159 = .ok (.ireturn, 1) := by decide +kernel
theorem dX5_total_160 : decode cX5_total 160 = .ok (.bipush (-2), 2) := by decide +kernel
theorem dX5_total_162 : decode cX5_total 162 = .ok (.ireturn, 1) := by decide +kernel
set_option maxRecDepth 20000 in
theorem ggX5_wouldMove_X3_tryCall : GoodIn wsX5_wouldMove wsX3_tryCall := goodIn_r _ [8, 9, 10, 11, 12, 13, 14, 15, 16, 17, 18, 19, 20, 21, 22, 23, 24, 25, 26, 27, 28, 29, 30, 31, 32, 33, 34, 7, 35, 36, 37, 38, 39, 40, 41, 42, 43, 44, 45, 46, 47, 48, 49, 50, 51, 52, 53, 54, 55, 56, 57, 58, 59, 60, 61, 62, 63, 64, 65, 66, 67, 68, 69, 70, 71, 72, 73, 74, 75, 76, 77, 78, 79, 80, 81, 95, 96, 97, 98, 99, 100, 101, 102, 103, 104, 105, 106, 107, 108, 109, 110, 111, 90, 91, 92, 93, 94] (by decide +kernel) (by decide +kernel)
set_option maxRecDepth 20000 in
theorem gX5_wouldMove_X3_tryCall : GoodIn wsX5_wouldMove (wsV RX5 198 RX3 yX3_tryCall wsX3_tryCall) := goodIn_app (goodIn_of _ (by decide +kernel)) ggX5_wouldMove_X3_tryCall
theorem dX5_wouldMove_0 : decode cX5_wouldMove 0 = .ok (.aload_n 0, 1) := by decide +kernel
theorem dX5_wouldMove_1 : decode cX5_wouldMove 1 = .ok (.getfield 28, 3) := by decide +kernel
theorem dX5_wouldMove_4 : decode cX5_wouldMove 4 = .ok (.aload_n 0, 1) := by decide +kernel
theorem dX5_wouldMove_5 : decode cX5_wouldMove 5 = .ok (.getfield 12, 3) := by decide +kernel
theorem dX5_wouldMove_8 : decode cX5_wouldMove 8 = .ok (.iload_n 1, 1) := by decide +kernel
theorem dX5_wouldMove_9 : decode cX5_wouldMove 9 = .ok (.iload_n 2, 1) := by decide +kernel
theorem dX5_wouldMove_10 : decode cX5_wouldMove 10 = .ok (.invokevirtual 198, 3) := by decide +kernel
theorem dX5_wouldMove_13 : decode cX5_wouldMove 13 = .ok (.istore_n 3, 1) := by decide +kernel
theorem dX5_wouldMove_14 : decode cX5_wouldMove 14 = .ok (.iload_n 3, 1) := by decide +kernel
theorem dX5_wouldMove_15 : decode cX5_wouldMove 15 = .ok (.ifCond .ge 7, 3) := by decide +kernel
theorem dX5_wouldMove_18 : decode cX5_wouldMove 18 = .ok (.iload_n 3, 1) := by decide +kernel
theorem dX5_wouldMove_19 : decode cX5_wouldMove 19 = .ok (.goto 10, 3) := by decide +kernel
theorem dX5_wouldMove_22 : decode cX5_wouldMove 22 = .ok (.aload_n 0, 1) := by decide +kernel
theorem dX5_wouldMove_23 : decode cX5_wouldMove 23 = .ok (.getfield 28, 3) := by decide +kernel
theorem dX5_wouldMove_26 : decode cX5_wouldMove 26 = .ok (.getfield 201, 3) := by decide +kernel
theorem dX5_wouldMove_29 : decode cX5_wouldMove 29 = .ok (.ireturn, 1) := by decide +kernel
set_option maxRecDepth 20000 in
theorem ggX5_chainCall_X3_tryCall : GoodIn wsX5_chainCall wsX3_tryCall := goodIn_r _ [10, 11, 12, 13, 14, 15, 16, 17, 18, 19, 20, 21, 22, 23, 24, 25, 26, 27, 28, 29, 30, 31, 32, 33, 34, 35, 36, 9, 37, 38, 39, 40, 41, 42, 43, 44, 45, 46, 47, 48, 49, 50, 51, 52, 53, 54, 55, 56, 57, 58, 59, 60, 61, 62, 63, 64, 65, 66, 67, 68, 69, 70, 71, 72, 73, 74, 75, 76, 77, 78, 79, 80, 81, 82, 83, 98, 99, 100, 101, 102, 103, 104, 105, 106, 107, 108, 109, 110, 111, 112, 113, 114, 93, 94, 95, 96, 97] (by decide +kernel) (by decide +kernel)
set_option maxRecDepth 20000 in
theorem gX5_chainCall_X3_tryCall : GoodIn wsX5_chainCall (wsV RX5 198 RX3 yX3_tryCall wsX3_tryCall) := goodIn_app (goodIn_of _ (by decide +kernel)) ggX5_chainCall_X3_tryCall
set_option maxRecDepth 20000 in
theorem ggX5_chainCall_X4_get : GoodIn wsX5_chainCall wsX4_get := goodIn_r _ [27, 28, 114] (by decide +kernel) (by decide +kernel)
set_option maxRecDepth 20000 in
theorem gX5_chainCall_X4_get : GoodIn wsX5_chainCall (wsV RX5 131 RX4 yX4_get wsX4_get) := goodIn_app (goodIn_of _ (by decide +kernel)) ggX5_chainCall_X4_get
theorem dX5_chainCall_0 : decode cX5_chainCall 0 = .ok (.aload_n 0, 1) := by decide +kernel
theorem dX5_chainCall_1 : decode cX5_chainCall 1 = .ok (.getfield 28, 3) := by decide +kernel
theorem dX5_chainCall_4 : decode cX5_chainCall 4 = .ok (.aload_n 0, 1) := by decide +kernel
theorem dX5_chainCall_5 : decode cX5_chainCall 5 = .ok (.getfield 12, 3) := by decide +kernel
theorem dX5_chainCall_8 : decode cX5_chainCall 8 = .ok (.iload_n 1, 1) := by decide +kernel
theorem dX5_chainCall_9 : decode cX5_chainCall 9 = .ok (.iload_n 2, 1) := by decide +kernel
theorem dX5_chainCall_10 : decode cX5_chainCall 10 = .ok (.invokevirtual 198, 3) := by decide +kernel
theorem dX5_chainCall_13 : decode cX5_chainCall 13 = .ok (.istore 4, 2) := by decide +kernel
theorem dX5_chainCall_15 : decode cX5_chainCall 15 = .ok (.iload 4, 2) := by decide +kernel
theorem dX5_chainCall_17 : decode cX5_chainCall 17 = .ok (.ifCond .ge 6, 3) := by decide +kernel
theorem dX5_chainCall_20 : decode cX5_chainCall 20 = .ok (.iload 4, 2) := by decide +kernel
theorem dX5_chainCall_22 : decode cX5_chainCall 22 = .ok (.ireturn, 1) := by decide +kernel
theorem dX5_chainCall_23 : decode cX5_chainCall 23 = .ok (.iload_n 3, 1) := by decide +kernel
theorem dX5_chainCall_24 : decode cX5_chainCall 24 = .ok (.ifCond .ge 6, 3) := by decide +kernel
theorem dX5_chainCall_27 : decode cX5_chainCall 27 = .ok (.bipush (-2), 2) := by decide +kernel
theorem dX5_chainCall_29 : decode cX5_chainCall 29 = .ok (.ireturn, 1) := by decide +kernel
theorem dX5_chainCall_30 : decode cX5_chainCall 30 = .ok (.iload_n 3, 1) := by decide +kernel
theorem dX5_chainCall_31 : decode cX5_chainCall 31 = .ok (.aload_n 0, 1) := by decide +kernel
theorem dX5_chainCall_32 : decode cX5_chainCall 32 = .ok (.getfield 28, 3) := by decide +kernel
theorem dX5_chainCall_35 : decode cX5_chainCall 35 = .ok (.getfield 201, 3) := by decide +kernel
theorem dX5_chainCall_38 : decode cX5_chainCall 38 = .ok (.if_icmp .ge 27, 3) := by decide +kernel
theorem dX5_chainCall_41 : decode cX5_chainCall 41 = .ok (.aload_n 0, 1) := by decide +kernel
theorem dX5_chainCall_42 : decode cX5_chainCall 42 = .ok (.getfield 12, 3) := by decide +kernel
theorem dX5_chainCall_45 : decode cX5_chainCall 45 = .ok (.getfield 127, 3) := by decide +kernel
theorem dX5_chainCall_48 : decode cX5_chainCall 48 = .ok (.aload_n 0, 1) := by decide +kernel
theorem dX5_chainCall_49 : decode cX5_chainCall 49 = .ok (.getfield 28, 3) := by decide +kernel
theorem dX5_chainCall_52 : decode cX5_chainCall 52 = .ok (.getfield 204, 3) := by decide +kernel
theorem dX5_chainCall_55 : decode cX5_chainCall 55 = .ok (.iload_n 3, 1) := by decide +kernel
theorem dX5_chainCall_56 : decode cX5_chainCall 56 = .ok (.invokevirtual 131, 3) := by decide +kernel
theorem dX5_chainCall_59 : decode cX5_chainCall 59 = .ok (.invokevirtual 131, 3) := by decide +kernel
theorem dX5_chainCall_62 : decode cX5_chainCall 62 = .ok (.goto 5, 3) := by decide +kernel
theorem dX5_chainCall_65 : decode cX5_chainCall 65 = .ok (.bipush (-6), 2) := by decide +kernel
theorem dX5_chainCall_67 : decode cX5_chainCall 67 = .ok (.ireturn, 1) := by decide +kernel
set_option maxRecDepth 20000 in
theorem ggX5_reason_X1_isLine : GoodIn wsX5_reason wsX1_isLine := goodIn_r _ [8, 9, 10, 48, 49, 50, 51, 52, 53, 54, 55, 56, 57, 58, 59, 60, 61, 62, 63] (by decide +kernel) (by decide +kernel)
set_option maxRecDepth 20000 in
theorem gX5_reason_X1_isLine : GoodIn wsX5_reason (wsV RX5 124 RX1 yX1_isLine wsX1_isLine) := goodIn_app (goodIn_of _ (by decide +kernel)) ggX5_reason_X1_isLine
set_option maxRecDepth 20000 in
theorem ggX5_reason_X1_isInletBusy : GoodIn wsX5_reason wsX1_isInletBusy := goodIn_r _ [14, 15, 16, 17, 18, 19, 20, 21, 48, 49, 50, 51, 52, 53, 54, 55, 56, 57, 58, 59, 60, 61, 62, 63, 64] (by decide +kernel) (by decide +kernel)
set_option maxRecDepth 20000 in
theorem gX5_reason_X1_isInletBusy : GoodIn wsX5_reason (wsV RX5 207 RX1 yX1_isInletBusy wsX1_isInletBusy) := goodIn_app (goodIn_of _ (by decide +kernel)) ggX5_reason_X1_isInletBusy
set_option maxRecDepth 20000 in
theorem ggX5_reason_X1_isOutletBusy : GoodIn wsX5_reason wsX1_isOutletBusy := goodIn_r _ [25, 26, 16, 17, 18, 19, 20, 21, 48, 49, 50, 51, 52, 53, 54, 55, 56, 57, 58, 59, 60, 61, 62, 63, 64] (by decide +kernel) (by decide +kernel)
set_option maxRecDepth 20000 in
theorem gX5_reason_X1_isOutletBusy : GoodIn wsX5_reason (wsV RX5 210 RX1 yX1_isOutletBusy wsX1_isOutletBusy) := goodIn_app (goodIn_of _ (by decide +kernel)) ggX5_reason_X1_isOutletBusy
set_option maxRecDepth 20000 in
theorem ggX5_reason_X1_boardOf : GoodIn wsX5_reason wsX1_boardOf := goodIn_r _ [30, 10, 48, 49, 50, 51, 52, 53, 54, 55, 56, 57, 58, 59, 60, 61, 62, 63] (by decide +kernel) (by decide +kernel)
set_option maxRecDepth 20000 in
theorem gX5_reason_X1_boardOf : GoodIn wsX5_reason (wsV RX5 213 RX1 yX1_boardOf wsX1_boardOf) := goodIn_app (goodIn_of _ (by decide +kernel)) ggX5_reason_X1_boardOf
set_option maxRecDepth 20000 in
theorem ggX5_reason_X1_freeOnLinks : GoodIn wsX5_reason wsX1_freeOnLinks := goodIn_r _ [34, 35, 36, 37, 38, 39, 16, 17, 18, 19, 20, 21, 48, 49, 50, 51, 52, 53, 54, 55, 56, 57, 58, 59, 60, 61, 62, 63, 64] (by decide +kernel) (by decide +kernel)
set_option maxRecDepth 20000 in
theorem gX5_reason_X1_freeOnLinks : GoodIn wsX5_reason (wsV RX5 167 RX1 yX1_freeOnLinks wsX1_freeOnLinks) := goodIn_app (goodIn_of _ (by decide +kernel)) ggX5_reason_X1_freeOnLinks
theorem dX5_reason_0 : decode cX5_reason 0 = .ok (.aload_n 0, 1) := by decide +kernel
theorem dX5_reason_1 : decode cX5_reason 1 = .ok (.getfield 12, 3) := by decide +kernel
theorem dX5_reason_4 : decode cX5_reason 4 = .ok (.iload_n 1, 1) := by decide +kernel
theorem dX5_reason_5 : decode cX5_reason 5 = .ok (.invokevirtual 124, 3) := by decide +kernel
theorem dX5_reason_8 : decode cX5_reason 8 = .ok (.ifCond .eq 14, 3) := by decide +kernel
theorem dX5_reason_11 : decode cX5_reason 11 = .ok (.aload_n 0, 1) := by decide +kernel
theorem dX5_reason_12 : decode cX5_reason 12 = .ok (.getfield 12, 3) := by decide +kernel
theorem dX5_reason_15 : decode cX5_reason 15 = .ok (.iload_n 2, 1) := by decide +kernel
theorem dX5_reason_16 : decode cX5_reason 16 = .ok (.invokevirtual 124, 3) := by decide +kernel
theorem dX5_reason_19 : decode cX5_reason 19 = .ok (.ifCond .ne 5, 3) := by decide +kernel
theorem dX5_reason_22 : decode cX5_reason 22 = .ok (.iconst (-1), 1) := by decide +kernel
theorem dX5_reason_23 : decode cX5_reason 23 = .ok (.ireturn, 1) := by decide +kernel
theorem dX5_reason_24 : decode cX5_reason 24 = .ok (.aload_n 0, 1) := by decide +kernel
theorem dX5_reason_25 : decode cX5_reason 25 = .ok (.getfield 12, 3) := by decide +kernel
theorem dX5_reason_28 : decode cX5_reason 28 = .ok (.iload_n 1, 1) := by decide +kernel
theorem dX5_reason_29 : decode cX5_reason 29 = .ok (.invokevirtual 207, 3) := by decide +kernel
theorem dX5_reason_32 : decode cX5_reason 32 = .ok (.ifCond .eq 5, 3) := by decide +kernel
theorem dX5_reason_35 : decode cX5_reason 35 = .ok (.iconst 2, 1) := by decide +kernel
theorem dX5_reason_36 : decode cX5_reason 36 = .ok (.ireturn, 1) := by decide +kernel
theorem dX5_reason_37 : decode cX5_reason 37 = .ok (.aload_n 0, 1) := by decide +kernel
theorem dX5_reason_38 : decode cX5_reason 38 = .ok (.getfield 12, 3) := by decide +kernel
theorem dX5_reason_41 : decode cX5_reason 41 = .ok (.iload_n 2, 1) := by decide +kernel
theorem dX5_reason_42 : decode cX5_reason 42 = .ok (.invokevirtual 210, 3) := by decide +kernel
theorem dX5_reason_45 : decode cX5_reason 45 = .ok (.ifCond .eq 5, 3) := by decide +kernel
theorem dX5_reason_48 : decode cX5_reason 48 = .ok (.iconst 3, 1) := by decide +kernel
theorem dX5_reason_49 : decode cX5_reason 49 = .ok (.ireturn, 1) := by decide +kernel
theorem dX5_reason_50 : decode cX5_reason 50 = .ok (.aload_n 0, 1) := by decide +kernel
theorem dX5_reason_51 : decode cX5_reason 51 = .ok (.getfield 12, 3) := by decide +kernel
theorem dX5_reason_54 : decode cX5_reason 54 = .ok (.aload_n 0, 1) := by decide +kernel
theorem dX5_reason_55 : decode cX5_reason 55 = .ok (.getfield 12, 3) := by decide +kernel
theorem dX5_reason_58 : decode cX5_reason 58 = .ok (.getfield 154, 3) := by decide +kernel
theorem dX5_reason_61 : decode cX5_reason 61 = .ok (.aload_n 0, 1) := by decide +kernel
theorem dX5_reason_62 : decode cX5_reason 62 = .ok (.getfield 12, 3) := by decide +kernel
theorem dX5_reason_65 : decode cX5_reason 65 = .ok (.iload_n 1, 1) := by decide +kernel
theorem dX5_reason_66 : decode cX5_reason 66 = .ok (.invokevirtual 213, 3) := by decide +kernel
theorem dX5_reason_69 : decode cX5_reason 69 = .ok (.invokevirtual 167, 3) := by decide +kernel
theorem dX5_reason_72 : decode cX5_reason 72 = .ok (.istore_n 3, 1) := by decide +kernel
theorem dX5_reason_73 : decode cX5_reason 73 = .ok (.aload_n 0, 1) := by decide +kernel
theorem dX5_reason_74 : decode cX5_reason 74 = .ok (.getfield 12, 3) := by decide +kernel
theorem dX5_reason_77 : decode cX5_reason 77 = .ok (.aload_n 0, 1) := by decide +kernel
theorem dX5_reason_78 : decode cX5_reason 78 = .ok (.getfield 12, 3) := by decide +kernel
theorem dX5_reason_81 : decode cX5_reason 81 = .ok (.getfield 161, 3) := by decide +kernel
theorem dX5_reason_84 : decode cX5_reason 84 = .ok (.aload_n 0, 1) := by decide +kernel
theorem dX5_reason_85 : decode cX5_reason 85 = .ok (.getfield 12, 3) := by decide +kernel
theorem dX5_reason_88 : decode cX5_reason 88 = .ok (.iload_n 2, 1) := by decide +kernel
theorem dX5_reason_89 : decode cX5_reason 89 = .ok (.invokevirtual 213, 3) := by decide +kernel
theorem dX5_reason_92 : decode cX5_reason 92 = .ok (.invokevirtual 167, 3) := by decide +kernel
theorem dX5_reason_95 : decode cX5_reason 95 = .ok (.istore 4, 2) := by decide +kernel
theorem dX5_reason_97 : decode cX5_reason 97 = .ok (.iload_n 3, 1) := by decide +kernel
theorem dX5_reason_98 : decode cX5_reason 98 = .ok (.ifCond .ne 5, 3) := by decide +kernel
theorem dX5_reason_101 : decode cX5_reason 101 = .ok (.iconst 4, 1) := by decide +kernel
theorem dX5_reason_102 : decode cX5_reason 102 = .ok (.ireturn, 1) := by decide +kernel
theorem dX5_reason_103 : decode cX5_reason 103 = .ok (.iload 4, 2) := by decide +kernel
theorem dX5_reason_105 : decode cX5_reason 105 = .ok (.ifCond .ne 5, 3) := by decide +kernel
theorem dX5_reason_108 : decode cX5_reason 108 = .ok (.iconst 5, 1) := by decide +kernel
theorem dX5_reason_109 : decode cX5_reason 109 = .ok (.ireturn, 1) := by decide +kernel
theorem dX5_reason_110 : decode cX5_reason 110 = .ok (.iload_n 3, 1) := by decide +kernel
theorem dX5_reason_111 : decode cX5_reason 111 = .ok (.iload 4, 2) := by decide +kernel
theorem dX5_reason_113 : decode cX5_reason 113 = .ok (.iand, 1) := by decide +kernel
theorem dX5_reason_114 : decode cX5_reason 114 = .ok (.ifCond .eq 7, 3) := by decide +kernel
theorem dX5_reason_117 : decode cX5_reason 117 = .ok (.iconst 0, 1) := by decide +kernel
theorem dX5_reason_118 : decode cX5_reason 118 = .ok (.goto 4, 3) := by decide +kernel
theorem dX5_reason_121 : decode cX5_reason 121 = .ok (.iconst 1, 1) := by decide +kernel
theorem dX5_reason_122 : decode cX5_reason 122 = .ok (.ireturn, 1) := by decide +kernel
set_option maxRecDepth 20000 in
theorem ggX5_leastMiddles_X1_fullestBoard : GoodIn wsX5_leastMiddles wsX1_fullestBoard := goodIn_r _ [6, 7, 8, 9, 10, 11, 12, 13, 14, 15, 5, 16, 17, 18, 19, 20, 21, 22, 23, 24, 25, 26, 27, 28, 37, 38, 39, 40, 41, 42, 43, 44, 45, 46, 47, 48, 49, 50, 51, 52, 53] (by decide +kernel) (by decide +kernel)
set_option maxRecDepth 20000 in
theorem gX5_leastMiddles_X1_fullestBoard : GoodIn wsX5_leastMiddles (wsV RX5 216 RX1 yX1_fullestBoard wsX1_fullestBoard) := goodIn_app (goodIn_of _ (by decide +kernel)) ggX5_leastMiddles_X1_fullestBoard
theorem dX5_leastMiddles_0 : decode cX5_leastMiddles 0 = .ok (.aload_n 0, 1) := by decide +kernel
theorem dX5_leastMiddles_1 : decode cX5_leastMiddles 1 = .ok (.getfield 12, 3) := by decide +kernel
theorem dX5_leastMiddles_4 : decode cX5_leastMiddles 4 = .ok (.invokevirtual 216, 3) := by decide +kernel
theorem dX5_leastMiddles_7 : decode cX5_leastMiddles 7 = .ok (.ireturn, 1) := by decide +kernel
set_option maxRecDepth 20000 in
theorem ggX5_reachable_X1_isLine : GoodIn wsX5_reachable wsX1_isLine := goodIn_r _ [8, 9, 10, 48, 49, 50, 51, 52, 53, 54, 55, 56, 57, 58, 59, 60, 61, 62, 63] (by decide +kernel) (by decide +kernel)
set_option maxRecDepth 20000 in
theorem gX5_reachable_X1_isLine : GoodIn wsX5_reachable (wsV RX5 124 RX1 yX1_isLine wsX1_isLine) := goodIn_app (goodIn_of _ (by decide +kernel)) ggX5_reachable_X1_isLine
set_option maxRecDepth 20000 in
theorem ggX5_reachable_X1_isInletBusy : GoodIn wsX5_reachable wsX1_isInletBusy := goodIn_r _ [14, 15, 16, 17, 18, 19, 20, 21, 48, 49, 50, 51, 52, 53, 54, 55, 56, 57, 58, 59, 60, 61, 62, 63, 64] (by decide +kernel) (by decide +kernel)
set_option maxRecDepth 20000 in
theorem gX5_reachable_X1_isInletBusy : GoodIn wsX5_reachable (wsV RX5 207 RX1 yX1_isInletBusy wsX1_isInletBusy) := goodIn_app (goodIn_of _ (by decide +kernel)) ggX5_reachable_X1_isInletBusy
set_option maxRecDepth 20000 in
theorem ggX5_reachable_X1_boardOf : GoodIn wsX5_reachable wsX1_boardOf := goodIn_r _ [25, 10, 48, 49, 50, 51, 52, 53, 54, 55, 56, 57, 58, 59, 60, 61, 62, 63] (by decide +kernel) (by decide +kernel)
set_option maxRecDepth 20000 in
theorem gX5_reachable_X1_boardOf : GoodIn wsX5_reachable (wsV RX5 213 RX1 yX1_boardOf wsX1_boardOf) := goodIn_app (goodIn_of _ (by decide +kernel)) ggX5_reachable_X1_boardOf
set_option maxRecDepth 20000 in
theorem ggX5_reachable_X1_freeOnLinks : GoodIn wsX5_reachable wsX1_freeOnLinks := goodIn_r _ [29, 30, 31, 32, 33, 34, 16, 17, 18, 19, 20, 21, 48, 49, 50, 51, 52, 53, 54, 55, 56, 57, 58, 59, 60, 61, 62, 63, 64] (by decide +kernel) (by decide +kernel)
set_option maxRecDepth 20000 in
theorem gX5_reachable_X1_freeOnLinks : GoodIn wsX5_reachable (wsV RX5 167 RX1 yX1_freeOnLinks wsX1_freeOnLinks) := goodIn_app (goodIn_of _ (by decide +kernel)) ggX5_reachable_X1_freeOnLinks
set_option maxRecDepth 20000 in
theorem ggX5_reachable_X1_isOutletBusy : GoodIn wsX5_reachable wsX1_isOutletBusy := goodIn_r _ [38, 39, 16, 17, 18, 19, 20, 21, 48, 49, 50, 51, 52, 53, 54, 55, 56, 57, 58, 59, 60, 61, 62, 63, 64] (by decide +kernel) (by decide +kernel)
set_option maxRecDepth 20000 in
theorem gX5_reachable_X1_isOutletBusy : GoodIn wsX5_reachable (wsV RX5 210 RX1 yX1_isOutletBusy wsX1_isOutletBusy) := goodIn_app (goodIn_of _ (by decide +kernel)) ggX5_reachable_X1_isOutletBusy
theorem dX5_reachable_0 : decode cX5_reachable 0 = .ok (.aload_n 0, 1) := by decide +kernel
theorem dX5_reachable_1 : decode cX5_reachable 1 = .ok (.getfield 12, 3) := by decide +kernel
theorem dX5_reachable_4 : decode cX5_reachable 4 = .ok (.iload_n 1, 1) := by decide +kernel
theorem dX5_reachable_5 : decode cX5_reachable 5 = .ok (.invokevirtual 124, 3) := by decide +kernel
theorem dX5_reachable_8 : decode cX5_reachable 8 = .ok (.ifCond .ne 5, 3) := by decide +kernel
theorem dX5_reachable_11 : decode cX5_reachable 11 = .ok (.iconst (-1), 1) := by decide +kernel
theorem dX5_reachable_12 : decode cX5_reachable 12 = .ok (.ireturn, 1) := by decide +kernel
theorem dX5_reachable_13 : decode cX5_reachable 13 = .ok (.aload_n 0, 1) := by decide +kernel
theorem dX5_reachable_14 : decode cX5_reachable 14 = .ok (.getfield 12, 3) := by decide +kernel
theorem dX5_reachable_17 : decode cX5_reachable 17 = .ok (.iload_n 1, 1) := by decide +kernel
theorem dX5_reachable_18 : decode cX5_reachable 18 = .ok (.invokevirtual 207, 3) := by decide +kernel
theorem dX5_reachable_21 : decode cX5_reachable 21 = .ok (.ifCond .eq 6, 3) := by decide +kernel
theorem dX5_reachable_24 : decode cX5_reachable 24 = .ok (.bipush (-3), 2) := by decide +kernel
theorem dX5_reachable_26 : decode cX5_reachable 26 = .ok (.ireturn, 1) := by decide +kernel
theorem dX5_reachable_27 : decode cX5_reachable 27 = .ok (.aload_n 0, 1) := by decide +kernel
theorem dX5_reachable_28 : decode cX5_reachable 28 = .ok (.getfield 12, 3) := by decide +kernel
theorem dX5_reachable_31 : decode cX5_reachable 31 = .ok (.aload_n 0, 1) := by decide +kernel
theorem dX5_reachable_32 : decode cX5_reachable 32 = .ok (.getfield 12, 3) := by decide +kernel
theorem dX5_reachable_35 : decode cX5_reachable 35 = .ok (.getfield 154, 3) := by decide +kernel
theorem dX5_reachable_38 : decode cX5_reachable 38 = .ok (.aload_n 0, 1) := by decide +kernel
theorem dX5_reachable_39 : decode cX5_reachable 39 = .ok (.getfield 12, 3) := by decide +kernel
theorem dX5_reachable_42 : decode cX5_reachable 42 = .ok (.iload_n 1, 1) := by decide +kernel
theorem dX5_reachable_43 : decode cX5_reachable 43 = .ok (.invokevirtual 213, 3) := by decide +kernel
theorem dX5_reachable_46 : decode cX5_reachable 46 = .ok (.invokevirtual 167, 3) := by decide +kernel
theorem dX5_reachable_49 : decode cX5_reachable 49 = .ok (.istore_n 2, 1) := by decide +kernel
theorem dX5_reachable_50 : decode cX5_reachable 50 = .ok (.iconst 0, 1) := by decide +kernel
theorem dX5_reachable_51 : decode cX5_reachable 51 = .ok (.istore_n 3, 1) := by decide +kernel
theorem dX5_reachable_52 : decode cX5_reachable 52 = .ok (.iconst 0, 1) := by decide +kernel
theorem dX5_reachable_53 : decode cX5_reachable 53 = .ok (.istore 4, 2) := by decide +kernel
theorem dX5_reachable_55 : decode cX5_reachable 55 = .ok (.iload 4, 2) := by decide +kernel
theorem dX5_reachable_57 : decode cX5_reachable 57 = .ok (.bipush 48, 2) := by decide +kernel
theorem dX5_reachable_59 : decode cX5_reachable 59 = .ok (.if_icmp .ge 73, 3) := by decide +kernel
theorem dX5_reachable_62 : decode cX5_reachable 62 = .ok (.aload_n 0, 1) := by decide +kernel
theorem dX5_reachable_63 : decode cX5_reachable 63 = .ok (.getfield 12, 3) := by decide +kernel
theorem dX5_reachable_66 : decode cX5_reachable 66 = .ok (.iload 4, 2) := by decide +kernel
theorem dX5_reachable_68 : decode cX5_reachable 68 = .ok (.invokevirtual 124, 3) := by decide +kernel
theorem dX5_reachable_71 : decode cX5_reachable 71 = .ok (.ifCond .eq 55, 3) := by decide +kernel
theorem dX5_reachable_74 : decode cX5_reachable 74 = .ok (.aload_n 0, 1) := by decide +kernel
theorem dX5_reachable_75 : decode cX5_reachable 75 = .ok (.getfield 12, 3) := by decide +kernel
theorem dX5_reachable_78 : decode cX5_reachable 78 = .ok (.iload 4, 2) := by decide +kernel
theorem dX5_reachable_80 : decode cX5_reachable 80 = .ok (.invokevirtual 210, 3) := by decide +kernel
theorem dX5_reachable_83 : decode cX5_reachable 83 = .ok (.ifCond .ne 43, 3) := by decide +kernel
theorem dX5_reachable_86 : decode cX5_reachable 86 = .ok (.aload_n 0, 1) := by decide +kernel
theorem dX5_reachable_87 : decode cX5_reachable 87 = .ok (.getfield 12, 3) := by decide +kernel
theorem dX5_reachable_90 : decode cX5_reachable 90 = .ok (.aload_n 0, 1) := by decide +kernel
theorem dX5_reachable_91 : decode cX5_reachable 91 = .ok (.getfield 12, 3) := by decide +kernel
theorem dX5_reachable_94 : decode cX5_reachable 94 = .ok (.getfield 161, 3) := by decide +kernel
theorem dX5_reachable_97 : decode cX5_reachable 97 = .ok (.aload_n 0, 1) := by decide +kernel
theorem dX5_reachable_98 : decode cX5_reachable 98 = .ok (.getfield 12, 3) := by decide +kernel
theorem dX5_reachable_101 : decode cX5_reachable 101 = .ok (.iload 4, 2) := by decide +kernel
theorem dX5_reachable_103 : decode cX5_reachable 103 = .ok (.invokevirtual 213, 3) := by decide +kernel
theorem dX5_reachable_106 : decode cX5_reachable 106 = .ok (.invokevirtual 167, 3) := by decide +kernel
theorem dX5_reachable_109 : decode cX5_reachable 109 = .ok (.istore 5, 2) := by decide +kernel
theorem dX5_reachable_111 : decode cX5_reachable 111 = .ok (.iload_n 3, 1) := by decide +kernel
theorem dX5_reachable_112 : decode cX5_reachable 112 = .ok (.iload_n 2, 1) := by decide +kernel
theorem dX5_reachable_113 : decode cX5_reachable 113 = .ok (.iload 5, 2) := by decide +kernel
theorem dX5_reachable_115 : decode cX5_reachable 115 = .ok (.iand, 1) := by decide +kernel
theorem dX5_reachable_116 : decode cX5_reachable 116 = .ok (.ifCond .eq 7, 3) := by decide +kernel
theorem dX5_reachable_119 : decode cX5_reachable 119 = .ok (.iconst 1, 1) := by decide +kernel
theorem dX5_reachable_120 : decode cX5_reachable 120 = .ok (.goto 4, 3) := by decide +kernel
theorem dX5_reachable_123 : decode cX5_reachable 123 = .ok (.iconst 0, 1) := by decide +kernel
theorem dX5_reachable_124 : decode cX5_reachable 124 = .ok (.iadd, 1) := by decide +kernel
theorem dX5_reachable_125 : decode cX5_reachable 125 = .ok (.istore_n 3, 1) := by decide +kernel
theorem dX5_reachable_126 : decode cX5_reachable 126 = .ok (.iinc 4 1, 3) := by decide +kernel
theorem dX5_reachable_129 : decode cX5_reachable 129 = .ok (.goto (-74), 3) := by decide +kernel
theorem dX5_reachable_132 : decode cX5_reachable 132 = .ok (.iload_n 3, 1) := by decide +kernel
theorem dX5_reachable_133 : decode cX5_reachable 133 = .ok (.ireturn, 1) := by decide +kernel
set_option maxRecDepth 20000 in
theorem ggX5_recorded_X0_push : GoodIn wsX5_recorded wsX0_push := goodIn_r _ [7, 8, 9, 10, 11, 12, 13, 14, 15, 16, 6, 17, 18, 19, 20, 21, 22, 23, 24, 25, 26, 27, 28, 29, 30, 31, 32, 33, 34, 35, 36, 37, 38, 39, 40, 41, 42, 43, 44, 45, 46, 47, 48, 49, 50, 59, 60, 61, 62, 63, 64, 65, 66, 67, 68, 69, 70, 71, 72, 73, 74, 75, 76, 77, 78] (by decide +kernel) (by decide +kernel)
set_option maxRecDepth 20000 in
theorem gX5_recorded_X0_push : GoodIn wsX5_recorded (wsV RX5 54 RX0 yX0_push wsX0_push) := goodIn_app (goodIn_of _ (by decide +kernel)) ggX5_recorded_X0_push
theorem dX5_recorded_0 : decode cX5_recorded 0 = .ok (.iload_n 1, 1) := by decide +kernel
theorem dX5_recorded_1 : decode cX5_recorded 1 = .ok (.ifCond .lt 14, 3) := by decide +kernel
theorem dX5_recorded_4 : decode cX5_recorded 4 = .ok (.aload_n 0, 1) := by decide +kernel
theorem dX5_recorded_5 : decode cX5_recorded 5 = .ok (.getfield 35, 3) := by decide +kernel
theorem dX5_recorded_8 : decode cX5_recorded 8 = .ok (.aload_n 0, 1) := by decide +kernel
theorem dX5_recorded_9 : decode cX5_recorded 9 = .ok (.getfield 16, 3) := by decide +kernel
theorem dX5_recorded_12 : decode cX5_recorded 12 = .ok (.invokevirtual 54, 3) := by decide +kernel
theorem dX5_recorded_15 : decode cX5_recorded 15 = .ok (.iload_n 1, 1) := by decide +kernel
theorem dX5_recorded_16 : decode cX5_recorded 16 = .ok (.ireturn, 1) := by decide +kernel
