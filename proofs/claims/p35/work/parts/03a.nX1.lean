set_option maxRecDepth 20000 in
theorem ggX1_init_X4_init : GoodIn wsX1_init wsX4_init := goodIn_r _ [19, 20, 2, 3, 21, 22, 23, 24, 25, 26, 27, 28, 29, 30, 47] (by decide +kernel) (by decide +kernel)
set_option maxRecDepth 20000 in
theorem gX1_init_X4_init : GoodIn wsX1_init (wsX4_init) := ggX1_init_X4_init
theorem dX1_init_0 : decode cX1_init 0 = .ok (.aload_n 0, 1) := by decide +kernel
theorem dX1_init_1 : decode cX1_init 1 = .ok (.invokespecial 3, 3) := by decide +kernel
theorem dX1_init_4 : decode cX1_init 4 = .ok (.aload_n 0, 1) := by decide +kernel
theorem dX1_init_5 : decode cX1_init 5 = .ok (.iconst 4, 1) := by decide +kernel
theorem dX1_init_6 : decode cX1_init 6 = .ok (.putfield 9, 3) := by decide +kernel
theorem dX1_init_9 : decode cX1_init 9 = .ok (.aload_n 0, 1) := by decide +kernel
theorem dX1_init_10 : decode cX1_init 10 = .ok (.iconst 3, 1) := by decide +kernel
theorem dX1_init_11 : decode cX1_init 11 = .ok (.putfield 15, 3) := by decide +kernel
theorem dX1_init_14 : decode cX1_init 14 = .ok (.aload_n 0, 1) := by decide +kernel
theorem dX1_init_15 : decode cX1_init 15 = .ok (.iconst 3, 1) := by decide +kernel
theorem dX1_init_16 : decode cX1_init 16 = .ok (.putfield 18, 3) := by decide +kernel
theorem dX1_init_19 : decode cX1_init 19 = .ok (.aload_n 0, 1) := by decide +kernel
theorem dX1_init_20 : decode cX1_init 20 = .ok (.bipush 7, 2) := by decide +kernel
theorem dX1_init_22 : decode cX1_init 22 = .ok (.putfield 21, 3) := by decide +kernel
theorem dX1_init_25 : decode cX1_init 25 = .ok (.aload_n 0, 1) := by decide +kernel
theorem dX1_init_26 : decode cX1_init 26 = .ok (.new 24, 3) := by decide +kernel
theorem dX1_init_29 : decode cX1_init 29 = .ok (.dup, 1) := by decide +kernel
theorem dX1_init_30 : decode cX1_init 30 = .ok (.bipush 48, 2) := by decide +kernel
theorem dX1_init_32 : decode cX1_init 32 = .ok (.invokespecial 26, 3) := by decide +kernel
theorem dX1_init_35 : decode cX1_init 35 = .ok (.putfield 29, 3) := by decide +kernel
theorem dX1_init_38 : decode cX1_init 38 = .ok (.aload_n 0, 1) := by decide +kernel
theorem dX1_init_39 : decode cX1_init 39 = .ok (.new 24, 3) := by decide +kernel
theorem dX1_init_42 : decode cX1_init 42 = .ok (.dup, 1) := by decide +kernel
theorem dX1_init_43 : decode cX1_init 43 = .ok (.bipush 48, 2) := by decide +kernel
theorem dX1_init_45 : decode cX1_init 45 = .ok (.invokespecial 26, 3) := by decide +kernel
theorem dX1_init_48 : decode cX1_init 48 = .ok (.putfield 33, 3) := by decide +kernel
theorem dX1_init_51 : decode cX1_init 51 = .ok (.aload_n 0, 1) := by decide +kernel
theorem dX1_init_52 : decode cX1_init 52 = .ok (.new 24, 3) := by decide +kernel
theorem dX1_init_55 : decode cX1_init 55 = .ok (.dup, 1) := by decide +kernel
theorem dX1_init_56 : decode cX1_init 56 = .ok (.bipush 48, 2) := by decide +kernel
theorem dX1_init_58 : decode cX1_init 58 = .ok (.invokespecial 26, 3) := by decide +kernel
theorem dX1_init_61 : decode cX1_init 61 = .ok (.putfield 36, 3) := by decide +kernel
theorem dX1_init_64 : decode cX1_init 64 = .ok (.aload_n 0, 1) := by decide +kernel
theorem dX1_init_65 : decode cX1_init 65 = .ok (.new 24, 3) := by decide +kernel
theorem dX1_init_68 : decode cX1_init 68 = .ok (.dup, 1) := by decide +kernel
theorem dX1_init_69 : decode cX1_init 69 = .ok (.bipush 48, 2) := by decide +kernel
theorem dX1_init_71 : decode cX1_init 71 = .ok (.invokespecial 26, 3) := by decide +kernel
theorem dX1_init_74 : decode cX1_init 74 = .ok (.putfield 39, 3) := by decide +kernel
theorem dX1_init_77 : decode cX1_init 77 = .ok (.aload_n 0, 1) := by decide +kernel
theorem dX1_init_78 : decode cX1_init 78 = .ok (.new 24, 3) := by decide +kernel
theorem dX1_init_81 : decode cX1_init 81 = .ok (.dup, 1) := by decide +kernel
theorem dX1_init_82 : decode cX1_init 82 = .ok (.bipush 64, 2) := by decide +kernel
theorem dX1_init_84 : decode cX1_init 84 = .ok (.invokespecial 26, 3) := by decide +kernel
theorem dX1_init_87 : decode cX1_init 87 = .ok (.putfield 42, 3) := by decide +kernel
theorem dX1_init_90 : decode cX1_init 90 = .ok (.aload_n 0, 1) := by decide +kernel
theorem dX1_init_91 : decode cX1_init 91 = .ok (.new 24, 3) := by decide +kernel
theorem dX1_init_94 : decode cX1_init 94 = .ok (.dup, 1) := by decide +kernel
theorem dX1_init_95 : decode cX1_init 95 = .ok (.bipush 64, 2) := by decide +kernel
theorem dX1_init_97 : decode cX1_init 97 = .ok (.invokespecial 26, 3) := by decide +kernel
theorem dX1_init_100 : decode cX1_init 100 = .ok (.putfield 45, 3) := by decide +kernel
theorem dX1_init_103 : decode cX1_init 103 = .ok (.return_, 1) := by decide +kernel
set_option maxRecDepth 20000 in
theorem ggX1_copyFrom_X4_copyFrom : GoodIn wsX1_copyFrom wsX4_copyFrom := goodIn_r _ [21, 22, 23, 24, 25, 26, 27, 28, 29, 30, 47] (by decide +kernel) (by decide +kernel)
set_option maxRecDepth 20000 in
theorem gX1_copyFrom_X4_copyFrom : GoodIn wsX1_copyFrom (wsV RX1 66 RX4 yX4_copyFrom wsX4_copyFrom) := goodIn_app (goodIn_of _ (by decide +kernel)) ggX1_copyFrom_X4_copyFrom
theorem dX1_copyFrom_0 : decode cX1_copyFrom 0 = .ok (.aload_n 0, 1) := by decide +kernel
theorem dX1_copyFrom_1 : decode cX1_copyFrom 1 = .ok (.aload_n 1, 1) := by decide +kernel
theorem dX1_copyFrom_2 : decode cX1_copyFrom 2 = .ok (.getfield 9, 3) := by decide +kernel
theorem dX1_copyFrom_5 : decode cX1_copyFrom 5 = .ok (.putfield 9, 3) := by decide +kernel
theorem dX1_copyFrom_8 : decode cX1_copyFrom 8 = .ok (.aload_n 0, 1) := by decide +kernel
theorem dX1_copyFrom_9 : decode cX1_copyFrom 9 = .ok (.aload_n 1, 1) := by decide +kernel
theorem dX1_copyFrom_10 : decode cX1_copyFrom 10 = .ok (.getfield 15, 3) := by decide +kernel
theorem dX1_copyFrom_13 : decode cX1_copyFrom 13 = .ok (.putfield 15, 3) := by decide +kernel
theorem dX1_copyFrom_16 : decode cX1_copyFrom 16 = .ok (.aload_n 0, 1) := by decide +kernel
theorem dX1_copyFrom_17 : decode cX1_copyFrom 17 = .ok (.aload_n 1, 1) := by decide +kernel
theorem dX1_copyFrom_18 : decode cX1_copyFrom 18 = .ok (.getfield 18, 3) := by decide +kernel
theorem dX1_copyFrom_21 : decode cX1_copyFrom 21 = .ok (.putfield 18, 3) := by decide +kernel
theorem dX1_copyFrom_24 : decode cX1_copyFrom 24 = .ok (.aload_n 0, 1) := by decide +kernel
theorem dX1_copyFrom_25 : decode cX1_copyFrom 25 = .ok (.aload_n 1, 1) := by decide +kernel
theorem dX1_copyFrom_26 : decode cX1_copyFrom 26 = .ok (.getfield 21, 3) := by decide +kernel
theorem dX1_copyFrom_29 : decode cX1_copyFrom 29 = .ok (.putfield 21, 3) := by decide +kernel
theorem dX1_copyFrom_32 : decode cX1_copyFrom 32 = .ok (.aload_n 0, 1) := by decide +kernel
theorem dX1_copyFrom_33 : decode cX1_copyFrom 33 = .ok (.aload_n 1, 1) := by decide +kernel
theorem dX1_copyFrom_34 : decode cX1_copyFrom 34 = .ok (.getfield 48, 3) := by decide +kernel
theorem dX1_copyFrom_37 : decode cX1_copyFrom 37 = .ok (.putfield 48, 3) := by decide +kernel
theorem dX1_copyFrom_40 : decode cX1_copyFrom 40 = .ok (.aload_n 0, 1) := by decide +kernel
theorem dX1_copyFrom_41 : decode cX1_copyFrom 41 = .ok (.aload_n 1, 1) := by decide +kernel
theorem dX1_copyFrom_42 : decode cX1_copyFrom 42 = .ok (.getfield 51, 3) := by decide +kernel
theorem dX1_copyFrom_45 : decode cX1_copyFrom 45 = .ok (.putfield 51, 3) := by decide +kernel
theorem dX1_copyFrom_48 : decode cX1_copyFrom 48 = .ok (.aload_n 0, 1) := by decide +kernel
theorem dX1_copyFrom_49 : decode cX1_copyFrom 49 = .ok (.aload_n 1, 1) := by decide +kernel
theorem dX1_copyFrom_50 : decode cX1_copyFrom 50 = .ok (.getfield 54, 3) := by decide +kernel
theorem dX1_copyFrom_53 : decode cX1_copyFrom 53 = .ok (.putfield 54, 3) := by decide +kernel
theorem dX1_copyFrom_56 : decode cX1_copyFrom 56 = .ok (.aload_n 0, 1) := by decide +kernel
theorem dX1_copyFrom_57 : decode cX1_copyFrom 57 = .ok (.aload_n 1, 1) := by decide +kernel
theorem dX1_copyFrom_58 : decode cX1_copyFrom 58 = .ok (.getfield 57, 3) := by decide +kernel
theorem dX1_copyFrom_61 : decode cX1_copyFrom 61 = .ok (.putfield 57, 3) := by decide +kernel
theorem dX1_copyFrom_64 : decode cX1_copyFrom 64 = .ok (.aload_n 0, 1) := by decide +kernel
theorem dX1_copyFrom_65 : decode cX1_copyFrom 65 = .ok (.aload_n 1, 1) := by decide +kernel
theorem dX1_copyFrom_66 : decode cX1_copyFrom 66 = .ok (.getfield 60, 3) := by decide +kernel
theorem dX1_copyFrom_69 : decode cX1_copyFrom 69 = .ok (.putfield 60, 3) := by decide +kernel
theorem dX1_copyFrom_72 : decode cX1_copyFrom 72 = .ok (.aload_n 0, 1) := by decide +kernel
theorem dX1_copyFrom_73 : decode cX1_copyFrom 73 = .ok (.aload_n 1, 1) := by decide +kernel
theorem dX1_copyFrom_74 : decode cX1_copyFrom 74 = .ok (.getfield 63, 3) := by decide +kernel
theorem dX1_copyFrom_77 : decode cX1_copyFrom 77 = .ok (.putfield 63, 3) := by decide +kernel
theorem dX1_copyFrom_80 : decode cX1_copyFrom 80 = .ok (.aload_n 0, 1) := by decide +kernel
theorem dX1_copyFrom_81 : decode cX1_copyFrom 81 = .ok (.getfield 29, 3) := by decide +kernel
theorem dX1_copyFrom_84 : decode cX1_copyFrom 84 = .ok (.aload_n 1, 1) := by decide +kernel
theorem dX1_copyFrom_85 : decode cX1_copyFrom 85 = .ok (.getfield 29, 3) := by decide +kernel
theorem dX1_copyFrom_88 : decode cX1_copyFrom 88 = .ok (.invokevirtual 66, 3) := by decide +kernel
theorem dX1_copyFrom_91 : decode cX1_copyFrom 91 = .ok (.aload_n 0, 1) := by decide +kernel
theorem dX1_copyFrom_92 : decode cX1_copyFrom 92 = .ok (.getfield 33, 3) := by decide +kernel
theorem dX1_copyFrom_95 : decode cX1_copyFrom 95 = .ok (.aload_n 1, 1) := by decide +kernel
theorem dX1_copyFrom_96 : decode cX1_copyFrom 96 = .ok (.getfield 33, 3) := by decide +kernel
theorem dX1_copyFrom_99 : decode cX1_copyFrom 99 = .ok (.invokevirtual 66, 3) := by decide +kernel
theorem dX1_copyFrom_102 : decode cX1_copyFrom 102 = .ok (.aload_n 0, 1) := by decide +kernel
theorem dX1_copyFrom_103 : decode cX1_copyFrom 103 = .ok (.getfield 36, 3) := by decide +kernel
theorem dX1_copyFrom_106 : decode cX1_copyFrom 106 = .ok (.aload_n 1, 1) := by decide +kernel
theorem dX1_copyFrom_107 : decode cX1_copyFrom 107 = .ok (.getfield 36, 3) := by decide +kernel
theorem dX1_copyFrom_110 : decode cX1_copyFrom 110 = .ok (.invokevirtual 66, 3) := by decide +kernel
theorem dX1_copyFrom_113 : decode cX1_copyFrom 113 = .ok (.aload_n 0, 1) := by decide +kernel
theorem dX1_copyFrom_114 : decode cX1_copyFrom 114 = .ok (.getfield 39, 3) := by decide +kernel
theorem dX1_copyFrom_117 : decode cX1_copyFrom 117 = .ok (.aload_n 1, 1) := by decide +kernel
theorem dX1_copyFrom_118 : decode cX1_copyFrom 118 = .ok (.getfield 39, 3) := by decide +kernel
theorem dX1_copyFrom_121 : decode cX1_copyFrom 121 = .ok (.invokevirtual 66, 3) := by decide +kernel
theorem dX1_copyFrom_124 : decode cX1_copyFrom 124 = .ok (.aload_n 0, 1) := by decide +kernel
theorem dX1_copyFrom_125 : decode cX1_copyFrom 125 = .ok (.getfield 42, 3) := by decide +kernel
theorem dX1_copyFrom_128 : decode cX1_copyFrom 128 = .ok (.aload_n 1, 1) := by decide +kernel
theorem dX1_copyFrom_129 : decode cX1_copyFrom 129 = .ok (.getfield 42, 3) := by decide +kernel
theorem dX1_copyFrom_132 : decode cX1_copyFrom 132 = .ok (.invokevirtual 66, 3) := by decide +kernel
theorem dX1_copyFrom_135 : decode cX1_copyFrom 135 = .ok (.aload_n 0, 1) := by decide +kernel
theorem dX1_copyFrom_136 : decode cX1_copyFrom 136 = .ok (.getfield 45, 3) := by decide +kernel
theorem dX1_copyFrom_139 : decode cX1_copyFrom 139 = .ok (.aload_n 1, 1) := by decide +kernel
theorem dX1_copyFrom_140 : decode cX1_copyFrom 140 = .ok (.getfield 45, 3) := by decide +kernel
theorem dX1_copyFrom_143 : decode cX1_copyFrom 143 = .ok (.invokevirtual 66, 3) := by decide +kernel
theorem dX1_copyFrom_146 : decode cX1_copyFrom 146 = .ok (.return_, 1) := by decide +kernel
set_option maxRecDepth 20000 in
theorem ggX1_rebuild_X1_countCalls : GoodIn wsX1_rebuild wsX1_countCalls := goodIn_r _ [16, 6, 17, 18, 19, 20, 21, 22, 31, 32, 33, 34, 35, 36, 37, 38, 39, 40, 41, 42, 43, 44, 45, 46, 47] (by decide +kernel) (by decide +kernel)
set_option maxRecDepth 20000 in
theorem gX1_rebuild_X1_countCalls : GoodIn wsX1_rebuild (wsV RX1 70 RX1 yX1_countCalls wsX1_countCalls) := goodIn_app (goodIn_of _ (by decide +kernel)) ggX1_rebuild_X1_countCalls
set_option maxRecDepth 20000 in
theorem ggX1_rebuild_X4_empty : GoodIn wsX1_rebuild wsX4_empty := goodIn_r _ [26, 22, 27, 28, 29, 30, 47] (by decide +kernel) (by decide +kernel)
set_option maxRecDepth 20000 in
theorem gX1_rebuild_X4_empty : GoodIn wsX1_rebuild (wsV RX1 74 RX4 yX4_empty wsX4_empty) := goodIn_app (goodIn_of _ (by decide +kernel)) ggX1_rebuild_X4_empty
theorem dX1_rebuild_0 : decode cX1_rebuild 0 = .ok (.aload_n 0, 1) := by decide +kernel
theorem dX1_rebuild_1 : decode cX1_rebuild 1 = .ok (.invokevirtual 70, 3) := by decide +kernel
theorem dX1_rebuild_4 : decode cX1_rebuild 4 = .ok (.istore 4, 2) := by decide +kernel
theorem dX1_rebuild_6 : decode cX1_rebuild 6 = .ok (.aload_n 0, 1) := by decide +kernel
theorem dX1_rebuild_7 : decode cX1_rebuild 7 = .ok (.dup, 1) := by decide +kernel
theorem dX1_rebuild_8 : decode cX1_rebuild 8 = .ok (.getfield 57, 3) := by decide +kernel
theorem dX1_rebuild_11 : decode cX1_rebuild 11 = .ok (.iload 4, 2) := by decide +kernel
theorem dX1_rebuild_13 : decode cX1_rebuild 13 = .ok (.iadd, 1) := by decide +kernel
theorem dX1_rebuild_14 : decode cX1_rebuild 14 = .ok (.putfield 57, 3) := by decide +kernel
theorem dX1_rebuild_17 : decode cX1_rebuild 17 = .ok (.aload_n 0, 1) := by decide +kernel
theorem dX1_rebuild_18 : decode cX1_rebuild 18 = .ok (.iload_n 1, 1) := by decide +kernel
theorem dX1_rebuild_19 : decode cX1_rebuild 19 = .ok (.putfield 9, 3) := by decide +kernel
theorem dX1_rebuild_22 : decode cX1_rebuild 22 = .ok (.aload_n 0, 1) := by decide +kernel
theorem dX1_rebuild_23 : decode cX1_rebuild 23 = .ok (.iload_n 2, 1) := by decide +kernel
theorem dX1_rebuild_24 : decode cX1_rebuild 24 = .ok (.putfield 15, 3) := by decide +kernel
theorem dX1_rebuild_27 : decode cX1_rebuild 27 = .ok (.aload_n 0, 1) := by decide +kernel
theorem dX1_rebuild_28 : decode cX1_rebuild 28 = .ok (.iload_n 3, 1) := by decide +kernel
theorem dX1_rebuild_29 : decode cX1_rebuild 29 = .ok (.putfield 18, 3) := by decide +kernel
theorem dX1_rebuild_32 : decode cX1_rebuild 32 = .ok (.aload_n 0, 1) := by decide +kernel
theorem dX1_rebuild_33 : decode cX1_rebuild 33 = .ok (.iconst 1, 1) := by decide +kernel
theorem dX1_rebuild_34 : decode cX1_rebuild 34 = .ok (.iload_n 3, 1) := by decide +kernel
theorem dX1_rebuild_35 : decode cX1_rebuild 35 = .ok (.ishl, 1) := by decide +kernel
theorem dX1_rebuild_36 : decode cX1_rebuild 36 = .ok (.iconst 1, 1) := by decide +kernel
theorem dX1_rebuild_37 : decode cX1_rebuild 37 = .ok (.isub, 1) := by decide +kernel
theorem dX1_rebuild_38 : decode cX1_rebuild 38 = .ok (.putfield 21, 3) := by decide +kernel
theorem dX1_rebuild_41 : decode cX1_rebuild 41 = .ok (.aload_n 0, 1) := by decide +kernel
theorem dX1_rebuild_42 : decode cX1_rebuild 42 = .ok (.getfield 29, 3) := by decide +kernel
theorem dX1_rebuild_45 : decode cX1_rebuild 45 = .ok (.invokevirtual 74, 3) := by decide +kernel
theorem dX1_rebuild_48 : decode cX1_rebuild 48 = .ok (.aload_n 0, 1) := by decide +kernel
theorem dX1_rebuild_49 : decode cX1_rebuild 49 = .ok (.getfield 33, 3) := by decide +kernel
theorem dX1_rebuild_52 : decode cX1_rebuild 52 = .ok (.invokevirtual 74, 3) := by decide +kernel
theorem dX1_rebuild_55 : decode cX1_rebuild 55 = .ok (.aload_n 0, 1) := by decide +kernel
theorem dX1_rebuild_56 : decode cX1_rebuild 56 = .ok (.getfield 36, 3) := by decide +kernel
theorem dX1_rebuild_59 : decode cX1_rebuild 59 = .ok (.invokevirtual 74, 3) := by decide +kernel
theorem dX1_rebuild_62 : decode cX1_rebuild 62 = .ok (.aload_n 0, 1) := by decide +kernel
theorem dX1_rebuild_63 : decode cX1_rebuild 63 = .ok (.getfield 39, 3) := by decide +kernel
theorem dX1_rebuild_66 : decode cX1_rebuild 66 = .ok (.invokevirtual 74, 3) := by decide +kernel
theorem dX1_rebuild_69 : decode cX1_rebuild 69 = .ok (.aload_n 0, 1) := by decide +kernel
theorem dX1_rebuild_70 : decode cX1_rebuild 70 = .ok (.getfield 42, 3) := by decide +kernel
theorem dX1_rebuild_73 : decode cX1_rebuild 73 = .ok (.invokevirtual 74, 3) := by decide +kernel
theorem dX1_rebuild_76 : decode cX1_rebuild 76 = .ok (.aload_n 0, 1) := by decide +kernel
theorem dX1_rebuild_77 : decode cX1_rebuild 77 = .ok (.getfield 45, 3) := by decide +kernel
theorem dX1_rebuild_80 : decode cX1_rebuild 80 = .ok (.invokevirtual 74, 3) := by decide +kernel
theorem dX1_rebuild_83 : decode cX1_rebuild 83 = .ok (.iload 4, 2) := by decide +kernel
theorem dX1_rebuild_85 : decode cX1_rebuild 85 = .ok (.ireturn, 1) := by decide +kernel
theorem dX1_isLine_0 : decode cX1_isLine 0 = .ok (.iload_n 1, 1) := by decide +kernel
theorem dX1_isLine_1 : decode cX1_isLine 1 = .ok (.ifCond .lt 20, 3) := by decide +kernel
theorem dX1_isLine_4 : decode cX1_isLine 4 = .ok (.iload_n 1, 1) := by decide +kernel
theorem dX1_isLine_5 : decode cX1_isLine 5 = .ok (.aload_n 0, 1) := by decide +kernel
theorem dX1_isLine_6 : decode cX1_isLine 6 = .ok (.getfield 9, 3) := by decide +kernel
theorem dX1_isLine_9 : decode cX1_isLine 9 = .ok (.aload_n 0, 1) := by decide +kernel
theorem dX1_isLine_10 : decode cX1_isLine 10 = .ok (.getfield 15, 3) := by decide +kernel
theorem dX1_isLine_13 : decode cX1_isLine 13 = .ok (.imul, 1) := by decide +kernel
theorem dX1_isLine_14 : decode cX1_isLine 14 = .ok (.if_icmp .ge 7, 3) := by decide +kernel
theorem dX1_isLine_17 : decode cX1_isLine 17 = .ok (.iconst 1, 1) := by decide +kernel
theorem dX1_isLine_18 : decode cX1_isLine 18 = .ok (.goto 4, 3) := by decide +kernel
theorem dX1_isLine_21 : decode cX1_isLine 21 = .ok (.iconst 0, 1) := by decide +kernel
theorem dX1_isLine_22 : decode cX1_isLine 22 = .ok (.ireturn, 1) := by decide +kernel
theorem dX1_isBoard_0 : decode cX1_isBoard 0 = .ok (.iload_n 1, 1) := by decide +kernel
theorem dX1_isBoard_1 : decode cX1_isBoard 1 = .ok (.ifCond .lt 15, 3) := by decide +kernel
theorem dX1_isBoard_4 : decode cX1_isBoard 4 = .ok (.iload_n 1, 1) := by decide +kernel
theorem dX1_isBoard_5 : decode cX1_isBoard 5 = .ok (.aload_n 0, 1) := by decide +kernel
theorem dX1_isBoard_6 : decode cX1_isBoard 6 = .ok (.getfield 9, 3) := by decide +kernel
theorem dX1_isBoard_9 : decode cX1_isBoard 9 = .ok (.if_icmp .ge 7, 3) := by decide +kernel
theorem dX1_isBoard_12 : decode cX1_isBoard 12 = .ok (.iconst 1, 1) := by decide +kernel
theorem dX1_isBoard_13 : decode cX1_isBoard 13 = .ok (.goto 4, 3) := by decide +kernel
theorem dX1_isBoard_16 : decode cX1_isBoard 16 = .ok (.iconst 0, 1) := by decide +kernel
theorem dX1_isBoard_17 : decode cX1_isBoard 17 = .ok (.ireturn, 1) := by decide +kernel
theorem dX1_isMiddle_0 : decode cX1_isMiddle 0 = .ok (.iload_n 1, 1) := by decide +kernel
theorem dX1_isMiddle_1 : decode cX1_isMiddle 1 = .ok (.ifCond .lt 15, 3) := by decide +kernel
theorem dX1_isMiddle_4 : decode cX1_isMiddle 4 = .ok (.iload_n 1, 1) := by decide +kernel
theorem dX1_isMiddle_5 : decode cX1_isMiddle 5 = .ok (.aload_n 0, 1) := by decide +kernel
theorem dX1_isMiddle_6 : decode cX1_isMiddle 6 = .ok (.getfield 18, 3) := by decide +kernel
theorem dX1_isMiddle_9 : decode cX1_isMiddle 9 = .ok (.if_icmp .ge 7, 3) := by decide +kernel
theorem dX1_isMiddle_12 : decode cX1_isMiddle 12 = .ok (.iconst 1, 1) := by decide +kernel
theorem dX1_isMiddle_13 : decode cX1_isMiddle 13 = .ok (.goto 4, 3) := by decide +kernel
theorem dX1_isMiddle_16 : decode cX1_isMiddle 16 = .ok (.iconst 0, 1) := by decide +kernel
theorem dX1_isMiddle_17 : decode cX1_isMiddle 17 = .ok (.ireturn, 1) := by decide +kernel
set_option maxRecDepth 20000 in
theorem ggX1_isInletBusy_X4_get : GoodIn wsX1_isInletBusy wsX4_get := goodIn_r _ [6, 7, 24] (by decide +kernel) (by decide +kernel)
set_option maxRecDepth 20000 in
theorem gX1_isInletBusy_X4_get : GoodIn wsX1_isInletBusy (wsV RX1 77 RX4 yX4_get wsX4_get) := goodIn_app (goodIn_of _ (by decide +kernel)) ggX1_isInletBusy_X4_get
theorem dX1_isInletBusy_0 : decode cX1_isInletBusy 0 = .ok (.aload_n 0, 1) := by decide +kernel
theorem dX1_isInletBusy_1 : decode cX1_isInletBusy 1 = .ok (.getfield 29, 3) := by decide +kernel
theorem dX1_isInletBusy_4 : decode cX1_isInletBusy 4 = .ok (.iload_n 1, 1) := by decide +kernel
theorem dX1_isInletBusy_5 : decode cX1_isInletBusy 5 = .ok (.invokevirtual 77, 3) := by decide +kernel
theorem dX1_isInletBusy_8 : decode cX1_isInletBusy 8 = .ok (.ifCond .lt 7, 3) := by decide +kernel
theorem dX1_isInletBusy_11 : decode cX1_isInletBusy 11 = .ok (.iconst 1, 1) := by decide +kernel
theorem dX1_isInletBusy_12 : decode cX1_isInletBusy 12 = .ok (.goto 4, 3) := by decide +kernel
theorem dX1_isInletBusy_15 : decode cX1_isInletBusy 15 = .ok (.iconst 0, 1) := by decide +kernel
theorem dX1_isInletBusy_16 : decode cX1_isInletBusy 16 = .ok (.ireturn, 1) := by decide +kernel
set_option maxRecDepth 20000 in
theorem ggX1_isOutletBusy_X4_get : GoodIn wsX1_isOutletBusy wsX4_get := goodIn_r _ [6, 7, 24] (by decide +kernel) (by decide +kernel)
set_option maxRecDepth 20000 in
theorem gX1_isOutletBusy_X4_get : GoodIn wsX1_isOutletBusy (wsV RX1 77 RX4 yX4_get wsX4_get) := goodIn_app (goodIn_of _ (by decide +kernel)) ggX1_isOutletBusy_X4_get
theorem dX1_isOutletBusy_0 : decode cX1_isOutletBusy 0 = .ok (.aload_n 0, 1) := by decide +kernel
theorem dX1_isOutletBusy_1 : decode cX1_isOutletBusy 1 = .ok (.getfield 39, 3) := by decide +kernel
theorem dX1_isOutletBusy_4 : decode cX1_isOutletBusy 4 = .ok (.iload_n 1, 1) := by decide +kernel
theorem dX1_isOutletBusy_5 : decode cX1_isOutletBusy 5 = .ok (.invokevirtual 77, 3) := by decide +kernel
theorem dX1_isOutletBusy_8 : decode cX1_isOutletBusy 8 = .ok (.ifCond .lt 7, 3) := by decide +kernel
theorem dX1_isOutletBusy_11 : decode cX1_isOutletBusy 11 = .ok (.iconst 1, 1) := by decide +kernel
theorem dX1_isOutletBusy_12 : decode cX1_isOutletBusy 12 = .ok (.goto 4, 3) := by decide +kernel
theorem dX1_isOutletBusy_15 : decode cX1_isOutletBusy 15 = .ok (.iconst 0, 1) := by decide +kernel
theorem dX1_isOutletBusy_16 : decode cX1_isOutletBusy 16 = .ok (.ireturn, 1) := by decide +kernel
theorem dX1_boardOf_0 : decode cX1_boardOf 0 = .ok (.aload_n 0, 1) := by decide +kernel
theorem dX1_boardOf_1 : decode cX1_boardOf 1 = .ok (.getfield 15, 3) := by decide +kernel
theorem dX1_boardOf_4 : decode cX1_boardOf 4 = .ok (.ifCond .le 12, 3) := by decide +kernel
theorem dX1_boardOf_7 : decode cX1_boardOf 7 = .ok (.iload_n 1, 1) := by decide +kernel
theorem dX1_boardOf_8 : decode cX1_boardOf 8 = .ok (.aload_n 0, 1) := by decide +kernel
theorem dX1_boardOf_9 : decode cX1_boardOf 9 = .ok (.getfield 15, 3) := by decide +kernel
theorem dX1_boardOf_12 : decode cX1_boardOf 12 = .ok (.idiv, 1) := by decide +kernel
theorem dX1_boardOf_13 : decode cX1_boardOf 13 = .ok (.goto 4, 3) := by decide +kernel
theorem dX1_boardOf_16 : decode cX1_boardOf 16 = .ok (.iconst 0, 1) := by decide +kernel
theorem dX1_boardOf_17 : decode cX1_boardOf 17 = .ok (.ireturn, 1) := by decide +kernel
set_option maxRecDepth 20000 in
theorem ggX1_countCalls_X4_get : GoodIn wsX1_countCalls wsX4_get := goodIn_r _ [6, 7, 24] (by decide +kernel) (by decide +kernel)
set_option maxRecDepth 20000 in
theorem gX1_countCalls_X4_get : GoodIn wsX1_countCalls (wsV RX1 77 RX4 yX4_get wsX4_get) := goodIn_app (goodIn_of _ (by decide +kernel)) ggX1_countCalls_X4_get
theorem dX1_countCalls_0 : decode cX1_countCalls 0 = .ok (.iconst 0, 1) := by decide +kernel
theorem dX1_countCalls_1 : decode cX1_countCalls 1 = .ok (.istore_n 1, 1) := by decide +kernel
theorem dX1_countCalls_2 : decode cX1_countCalls 2 = .ok (.iconst 0, 1) := by decide +kernel
theorem dX1_countCalls_3 : decode cX1_countCalls 3 = .ok (.istore_n 2, 1) := by decide +kernel
theorem dX1_countCalls_4 : decode cX1_countCalls 4 = .ok (.iload_n 2, 1) := by decide +kernel
theorem dX1_countCalls_5 : decode cX1_countCalls 5 = .ok (.bipush 48, 2) := by decide +kernel
theorem dX1_countCalls_7 : decode cX1_countCalls 7 = .ok (.if_icmp .ge 28, 3) := by decide +kernel
theorem dX1_countCalls_10 : decode cX1_countCalls 10 = .ok (.iload_n 1, 1) := by decide +kernel
theorem dX1_countCalls_11 : decode cX1_countCalls 11 = .ok (.aload_n 0, 1) := by decide +kernel
theorem dX1_countCalls_12 : decode cX1_countCalls 12 = .ok (.getfield 29, 3) := by decide +kernel
theorem dX1_countCalls_15 : decode cX1_countCalls 15 = .ok (.iload_n 2, 1) := by decide +kernel
theorem dX1_countCalls_16 : decode cX1_countCalls 16 = .ok (.invokevirtual 77, 3) := by decide +kernel
theorem dX1_countCalls_19 : decode cX1_countCalls 19 = .ok (.ifCond .lt 7, 3) := by decide +kernel
theorem dX1_countCalls_22 : decode cX1_countCalls 22 = .ok (.iconst 1, 1) := by decide +kernel
theorem dX1_countCalls_23 : decode cX1_countCalls 23 = .ok (.goto 4, 3) := by decide +kernel
theorem dX1_countCalls_26 : decode cX1_countCalls 26 = .ok (.iconst 0, 1) := by decide +kernel
theorem dX1_countCalls_27 : decode cX1_countCalls 27 = .ok (.iadd, 1) := by decide +kernel
theorem dX1_countCalls_28 : decode cX1_countCalls 28 = .ok (.istore_n 1, 1) := by decide +kernel
theorem dX1_countCalls_29 : decode cX1_countCalls 29 = .ok (.iinc 2 1, 3) := by decide +kernel
theorem dX1_countCalls_32 : decode cX1_countCalls 32 = .ok (.goto (-28), 3) := by decide +kernel
theorem dX1_countCalls_35 : decode cX1_countCalls 35 = .ok (.iload_n 1, 1) := by decide +kernel
theorem dX1_countCalls_36 : decode cX1_countCalls 36 = .ok (.ireturn, 1) := by decide +kernel
set_option maxRecDepth 20000 in
theorem ggX1_findInlet_X4_get : GoodIn wsX1_findInlet wsX4_get := goodIn_r _ [6, 7, 24] (by decide +kernel) (by decide +kernel)
set_option maxRecDepth 20000 in
theorem gX1_findInlet_X4_get : GoodIn wsX1_findInlet (wsV RX1 77 RX4 yX4_get wsX4_get) := goodIn_app (goodIn_of _ (by decide +kernel)) ggX1_findInlet_X4_get
theorem dX1_findInlet_0 : decode cX1_findInlet 0 = .ok (.iload_n 1, 1) := by decide +kernel
theorem dX1_findInlet_1 : decode cX1_findInlet 1 = .ok (.ifCond .ge 5, 3) := by decide +kernel
theorem dX1_findInlet_4 : decode cX1_findInlet 4 = .ok (.iconst (-1), 1) := by decide +kernel
theorem dX1_findInlet_5 : decode cX1_findInlet 5 = .ok (.ireturn, 1) := by decide +kernel
theorem dX1_findInlet_6 : decode cX1_findInlet 6 = .ok (.iconst 0, 1) := by decide +kernel
theorem dX1_findInlet_7 : decode cX1_findInlet 7 = .ok (.istore_n 2, 1) := by decide +kernel
theorem dX1_findInlet_8 : decode cX1_findInlet 8 = .ok (.iload_n 2, 1) := by decide +kernel
theorem dX1_findInlet_9 : decode cX1_findInlet 9 = .ok (.bipush 48, 2) := by decide +kernel
theorem dX1_findInlet_11 : decode cX1_findInlet 11 = .ok (.if_icmp .ge 23, 3) := by decide +kernel
theorem dX1_findInlet_14 : decode cX1_findInlet 14 = .ok (.aload_n 0, 1) := by decide +kernel
theorem dX1_findInlet_15 : decode cX1_findInlet 15 = .ok (.getfield 29, 3) := by decide +kernel
theorem dX1_findInlet_18 : decode cX1_findInlet 18 = .ok (.iload_n 2, 1) := by decide +kernel
theorem dX1_findInlet_19 : decode cX1_findInlet 19 = .ok (.invokevirtual 77, 3) := by decide +kernel
theorem dX1_findInlet_22 : decode cX1_findInlet 22 = .ok (.iload_n 1, 1) := by decide +kernel
theorem dX1_findInlet_23 : decode cX1_findInlet 23 = .ok (.if_icmp .ne 5, 3) := by decide +kernel
theorem dX1_findInlet_26 : decode cX1_findInlet 26 = .ok (.iload_n 2, 1) := by decide +kernel
theorem dX1_findInlet_27 : decode cX1_findInlet 27 = .ok (.ireturn, 1) := by decide +kernel
theorem dX1_findInlet_28 : decode cX1_findInlet 28 = .ok (.iinc 2 1, 3) := by decide +kernel
theorem dX1_findInlet_31 : decode cX1_findInlet 31 = .ok (.goto (-23), 3) := by decide +kernel
theorem dX1_findInlet_34 : decode cX1_findInlet 34 = .ok (.iconst (-1), 1) := by decide +kernel
theorem dX1_findInlet_35 : decode cX1_findInlet 35 = .ok (.ireturn, 1) := by decide +kernel
set_option maxRecDepth 20000 in
theorem ggX1_loadOf_X5_link : GoodIn wsX1_loadOf wsX5_link := goodIn_r _ [5] (by decide +kernel) (by decide +kernel)
set_option maxRecDepth 20000 in
theorem gX1_loadOf_X5_link_n81 : GoodIn wsX1_loadOf (wsX5_link) := ggX1_loadOf_X5_link
set_option maxRecDepth 20000 in
theorem ggX1_loadOf_X4_get : GoodIn wsX1_loadOf wsX4_get := goodIn_r _ [10, 11, 28] (by decide +kernel) (by decide +kernel)
set_option maxRecDepth 20000 in
theorem gX1_loadOf_X4_get : GoodIn wsX1_loadOf (wsV RX1 77 RX4 yX4_get wsX4_get) := goodIn_app (goodIn_of _ (by decide +kernel)) ggX1_loadOf_X4_get
theorem dX1_loadOf_0 : decode cX1_loadOf 0 = .ok (.iconst 0, 1) := by decide +kernel
theorem dX1_loadOf_1 : decode cX1_loadOf 1 = .ok (.istore_n 2, 1) := by decide +kernel
theorem dX1_loadOf_2 : decode cX1_loadOf 2 = .ok (.iconst 0, 1) := by decide +kernel
theorem dX1_loadOf_3 : decode cX1_loadOf 3 = .ok (.istore_n 3, 1) := by decide +kernel
theorem dX1_loadOf_4 : decode cX1_loadOf 4 = .ok (.iload_n 3, 1) := by decide +kernel
theorem dX1_loadOf_5 : decode cX1_loadOf 5 = .ok (.aload_n 0, 1) := by decide +kernel
theorem dX1_loadOf_6 : decode cX1_loadOf 6 = .ok (.getfield 9, 3) := by decide +kernel
theorem dX1_loadOf_9 : decode cX1_loadOf 9 = .ok (.if_icmp .ge 32, 3) := by decide +kernel
theorem dX1_loadOf_12 : decode cX1_loadOf 12 = .ok (.iload_n 2, 1) := by decide +kernel
theorem dX1_loadOf_13 : decode cX1_loadOf 13 = .ok (.aload_n 0, 1) := by decide +kernel
theorem dX1_loadOf_14 : decode cX1_loadOf 14 = .ok (.getfield 42, 3) := by decide +kernel
theorem dX1_loadOf_17 : decode cX1_loadOf 17 = .ok (.iload_n 3, 1) := by decide +kernel
theorem dX1_loadOf_18 : decode cX1_loadOf 18 = .ok (.iload_n 1, 1) := by decide +kernel
theorem dX1_loadOf_19 : decode cX1_loadOf 19 = .ok (.invokestatic 81, 3) := by decide +kernel
theorem dX1_loadOf_22 : decode cX1_loadOf 22 = .ok (.invokevirtual 77, 3) := by decide +kernel
theorem dX1_loadOf_25 : decode cX1_loadOf 25 = .ok (.ifCond .lt 7, 3) := by decide +kernel
theorem dX1_loadOf_28 : decode cX1_loadOf 28 = .ok (.iconst 1, 1) := by decide +kernel
theorem dX1_loadOf_29 : decode cX1_loadOf 29 = .ok (.goto 4, 3) := by decide +kernel
theorem dX1_loadOf_32 : decode cX1_loadOf 32 = .ok (.iconst 0, 1) := by decide +kernel
theorem dX1_loadOf_33 : decode cX1_loadOf 33 = .ok (.iadd, 1) := by decide +kernel
theorem dX1_loadOf_34 : decode cX1_loadOf 34 = .ok (.istore_n 2, 1) := by decide +kernel
theorem dX1_loadOf_35 : decode cX1_loadOf 35 = .ok (.iinc 3 1, 3) := by decide +kernel
theorem dX1_loadOf_38 : decode cX1_loadOf 38 = .ok (.goto (-34), 3) := by decide +kernel
theorem dX1_loadOf_41 : decode cX1_loadOf 41 = .ok (.iload_n 2, 1) := by decide +kernel
theorem dX1_loadOf_42 : decode cX1_loadOf 42 = .ok (.ireturn, 1) := by decide +kernel
set_option maxRecDepth 20000 in
theorem ggX1_freeOnLinks_X5_link : GoodIn wsX1_freeOnLinks wsX5_link := goodIn_r _ [5] (by decide +kernel) (by decide +kernel)
set_option maxRecDepth 20000 in
theorem gX1_freeOnLinks_X5_link_n81 : GoodIn wsX1_freeOnLinks (wsX5_link) := ggX1_freeOnLinks_X5_link
set_option maxRecDepth 20000 in
theorem ggX1_freeOnLinks_X4_get : GoodIn wsX1_freeOnLinks wsX4_get := goodIn_r _ [10, 11, 28] (by decide +kernel) (by decide +kernel)
set_option maxRecDepth 20000 in
theorem gX1_freeOnLinks_X4_get : GoodIn wsX1_freeOnLinks (wsV RX1 77 RX4 yX4_get wsX4_get) := goodIn_app (goodIn_of _ (by decide +kernel)) ggX1_freeOnLinks_X4_get
theorem dX1_freeOnLinks_0 : decode cX1_freeOnLinks 0 = .ok (.iconst 0, 1) := by decide +kernel
theorem dX1_freeOnLinks_1 : decode cX1_freeOnLinks 1 = .ok (.istore_n 3, 1) := by decide +kernel
theorem dX1_freeOnLinks_2 : decode cX1_freeOnLinks 2 = .ok (.iconst 0, 1) := by decide +kernel
theorem dX1_freeOnLinks_3 : decode cX1_freeOnLinks 3 = .ok (.istore 4, 2) := by decide +kernel
theorem dX1_freeOnLinks_5 : decode cX1_freeOnLinks 5 = .ok (.iload 4, 2) := by decide +kernel
theorem dX1_freeOnLinks_7 : decode cX1_freeOnLinks 7 = .ok (.aload_n 0, 1) := by decide +kernel
theorem dX1_freeOnLinks_8 : decode cX1_freeOnLinks 8 = .ok (.getfield 18, 3) := by decide +kernel
theorem dX1_freeOnLinks_11 : decode cX1_freeOnLinks 11 = .ok (.if_icmp .ge 29, 3) := by decide +kernel
theorem dX1_freeOnLinks_14 : decode cX1_freeOnLinks 14 = .ok (.aload_n 1, 1) := by decide +kernel
theorem dX1_freeOnLinks_15 : decode cX1_freeOnLinks 15 = .ok (.iload_n 2, 1) := by decide +kernel
theorem dX1_freeOnLinks_16 : decode cX1_freeOnLinks 16 = .ok (.iload 4, 2) := by decide +kernel
theorem dX1_freeOnLinks_18 : decode cX1_freeOnLinks 18 = .ok (.invokestatic 81, 3) := by decide +kernel
theorem dX1_freeOnLinks_21 : decode cX1_freeOnLinks 21 = .ok (.invokevirtual 77, 3) := by decide +kernel
theorem dX1_freeOnLinks_24 : decode cX1_freeOnLinks 24 = .ok (.ifCond .ge 10, 3) := by decide +kernel
theorem dX1_freeOnLinks_27 : decode cX1_freeOnLinks 27 = .ok (.iload_n 3, 1) := by decide +kernel
theorem dX1_freeOnLinks_28 : decode cX1_freeOnLinks 28 = .ok (.iconst 1, 1) := by decide +kernel
theorem dX1_freeOnLinks_29 : decode cX1_freeOnLinks 29 = .ok (.iload 4, 2) := by decide +kernel
theorem dX1_freeOnLinks_31 : decode cX1_freeOnLinks 31 = .ok (.ishl, 1) := by decide +kernel
theorem dX1_freeOnLinks_32 : decode cX1_freeOnLinks 32 = .ok (.ior, 1) := by decide +kernel
theorem dX1_freeOnLinks_33 : decode cX1_freeOnLinks 33 = .ok (.istore_n 3, 1) := by decide +kernel
theorem dX1_freeOnLinks_34 : decode cX1_freeOnLinks 34 = .ok (.iinc 4 1, 3) := by decide +kernel
theorem dX1_freeOnLinks_37 : decode cX1_freeOnLinks 37 = .ok (.goto (-32), 3) := by decide +kernel
theorem dX1_freeOnLinks_40 : decode cX1_freeOnLinks 40 = .ok (.iload_n 3, 1) := by decide +kernel
theorem dX1_freeOnLinks_41 : decode cX1_freeOnLinks 41 = .ok (.aload_n 0, 1) := by decide +kernel
theorem dX1_freeOnLinks_42 : decode cX1_freeOnLinks 42 = .ok (.getfield 21, 3) := by decide +kernel
theorem dX1_freeOnLinks_45 : decode cX1_freeOnLinks 45 = .ok (.iand, 1) := by decide +kernel
theorem dX1_freeOnLinks_46 : decode cX1_freeOnLinks 46 = .ok (.ireturn, 1) := by decide +kernel
set_option maxRecDepth 20000 in
theorem ggX1_fullestBoard_X1_isInletBusy : GoodIn wsX1_fullestBoard wsX1_isInletBusy := goodIn_r _ [11, 12, 13, 14, 15, 16, 17, 18, 24, 25, 26, 27, 28, 29, 30, 31, 32, 33, 34, 35, 36, 37, 38, 39, 40] (by decide +kernel) (by decide +kernel)
set_option maxRecDepth 20000 in
theorem gX1_fullestBoard_X1_isInletBusy : GoodIn wsX1_fullestBoard (wsV RX1 85 RX1 yX1_isInletBusy wsX1_isInletBusy) := goodIn_app (goodIn_of _ (by decide +kernel)) ggX1_fullestBoard_X1_isInletBusy
set_option maxRecDepth 20000 in
theorem ggX1_fullestBoard_X1_isOutletBusy : GoodIn wsX1_fullestBoard wsX1_isOutletBusy := goodIn_r _ [22, 23, 13, 14, 15, 16, 17, 18, 24, 25, 26, 27, 28, 29, 30, 31, 32, 33, 34, 35, 36, 37, 38, 39, 40] (by decide +kernel) (by decide +kernel)
set_option maxRecDepth 20000 in
theorem gX1_fullestBoard_X1_isOutletBusy : GoodIn wsX1_fullestBoard (wsV RX1 89 RX1 yX1_isOutletBusy wsX1_isOutletBusy) := goodIn_app (goodIn_of _ (by decide +kernel)) ggX1_fullestBoard_X1_isOutletBusy
theorem dX1_fullestBoard_0 : decode cX1_fullestBoard 0 = .ok (.iconst 0, 1) := by decide +kernel
theorem dX1_fullestBoard_1 : decode cX1_fullestBoard 1 = .ok (.istore_n 1, 1) := by decide +kernel
theorem dX1_fullestBoard_2 : decode cX1_fullestBoard 2 = .ok (.iconst 0, 1) := by decide +kernel
theorem dX1_fullestBoard_3 : decode cX1_fullestBoard 3 = .ok (.istore_n 2, 1) := by decide +kernel
theorem dX1_fullestBoard_4 : decode cX1_fullestBoard 4 = .ok (.iload_n 2, 1) := by decide +kernel
theorem dX1_fullestBoard_5 : decode cX1_fullestBoard 5 = .ok (.aload_n 0, 1) := by decide +kernel
theorem dX1_fullestBoard_6 : decode cX1_fullestBoard 6 = .ok (.getfield 9, 3) := by decide +kernel
theorem dX1_fullestBoard_9 : decode cX1_fullestBoard 9 = .ok (.if_icmp .ge 88, 3) := by decide +kernel
theorem dX1_fullestBoard_12 : decode cX1_fullestBoard 12 = .ok (.iconst 0, 1) := by decide +kernel
theorem dX1_fullestBoard_13 : decode cX1_fullestBoard 13 = .ok (.istore_n 3, 1) := by decide +kernel
theorem dX1_fullestBoard_14 : decode cX1_fullestBoard 14 = .ok (.iconst 0, 1) := by decide +kernel
theorem dX1_fullestBoard_15 : decode cX1_fullestBoard 15 = .ok (.istore 4, 2) := by decide +kernel
theorem dX1_fullestBoard_17 : decode cX1_fullestBoard 17 = .ok (.iload_n 2, 1) := by decide +kernel
theorem dX1_fullestBoard_18 : decode cX1_fullestBoard 18 = .ok (.aload_n 0, 1) := by decide +kernel
theorem dX1_fullestBoard_19 : decode cX1_fullestBoard 19 = .ok (.getfield 15, 3) := by decide +kernel
theorem dX1_fullestBoard_22 : decode cX1_fullestBoard 22 = .ok (.imul, 1) := by decide +kernel
theorem dX1_fullestBoard_23 : decode cX1_fullestBoard 23 = .ok (.istore 5, 2) := by decide +kernel
theorem dX1_fullestBoard_25 : decode cX1_fullestBoard 25 = .ok (.iload 5, 2) := by decide +kernel
theorem dX1_fullestBoard_27 : decode cX1_fullestBoard 27 = .ok (.iload_n 2, 1) := by decide +kernel
theorem dX1_fullestBoard_28 : decode cX1_fullestBoard 28 = .ok (.iconst 1, 1) := by decide +kernel
theorem dX1_fullestBoard_29 : decode cX1_fullestBoard 29 = .ok (.iadd, 1) := by decide +kernel
theorem dX1_fullestBoard_30 : decode cX1_fullestBoard 30 = .ok (.aload_n 0, 1) := by decide +kernel
theorem dX1_fullestBoard_31 : decode cX1_fullestBoard 31 = .ok (.getfield 15, 3) := by decide +kernel
theorem dX1_fullestBoard_34 : decode cX1_fullestBoard 34 = .ok (.imul, 1) := by decide +kernel
theorem dX1_fullestBoard_35 : decode cX1_fullestBoard 35 = .ok (.if_icmp .ge 45, 3) := by decide +kernel
theorem dX1_fullestBoard_38 : decode cX1_fullestBoard 38 = .ok (.iload_n 3, 1) := by decide +kernel
theorem dX1_fullestBoard_39 : decode cX1_fullestBoard 39 = .ok (.aload_n 0, 1) := by decide +kernel
theorem dX1_fullestBoard_40 : decode cX1_fullestBoard 40 = .ok (.iload 5, 2) := by decide +kernel
theorem dX1_fullestBoard_42 : decode cX1_fullestBoard 42 = .ok (.invokevirtual 85, 3) := by decide +kernel
theorem dX1_fullestBoard_45 : decode cX1_fullestBoard 45 = .ok (.ifCond .eq 7, 3) := by decide +kernel
theorem dX1_fullestBoard_48 : decode cX1_fullestBoard 48 = .ok (.iconst 1, 1) := by decide +kernel
theorem dX1_fullestBoard_49 : decode cX1_fullestBoard 49 = .ok (.goto 4, 3) := by decide +kernel
theorem dX1_fullestBoard_52 : decode cX1_fullestBoard 52 = .ok (.iconst 0, 1) := by decide +kernel
theorem dX1_fullestBoard_53 : decode cX1_fullestBoard 53 = .ok (.iadd, 1) := by decide +kernel
theorem dX1_fullestBoard_54 : decode cX1_fullestBoard 54 = .ok (.istore_n 3, 1) := by decide +kernel
theorem dX1_fullestBoard_55 : decode cX1_fullestBoard 55 = .ok (.iload 4, 2) := by decide +kernel
theorem dX1_fullestBoard_57 : decode cX1_fullestBoard 57 = .ok (.aload_n 0, 1) := by decide +kernel
theorem dX1_fullestBoard_58 : decode cX1_fullestBoard 58 = .ok (.iload 5, 2) := by decide +kernel
theorem dX1_fullestBoard_60 : decode cX1_fullestBoard 60 = .ok (.invokevirtual 89, 3) := by decide +kernel
theorem dX1_fullestBoard_63 : decode cX1_fullestBoard 63 = .ok (.ifCond .eq 7, 3) := by decide +kernel
theorem dX1_fullestBoard_66 : decode cX1_fullestBoard 66 = .ok (.iconst 1, 1) := by decide +kernel
theorem dX1_fullestBoard_67 : decode cX1_fullestBoard 67 = .ok (.goto 4, 3) := by decide +kernel
theorem dX1_fullestBoard_70 : decode cX1_fullestBoard 70 = .ok (.iconst 0, 1) := by decide +kernel
theorem dX1_fullestBoard_71 : decode cX1_fullestBoard 71 = .ok (.iadd, 1) := by decide +kernel
theorem dX1_fullestBoard_72 : decode cX1_fullestBoard 72 = .ok (.istore 4, 2) := by decide +kernel
theorem dX1_fullestBoard_74 : decode cX1_fullestBoard 74 = .ok (.iinc 5 1, 3) := by decide +kernel
theorem dX1_fullestBoard_77 : decode cX1_fullestBoard 77 = .ok (.goto (-52), 3) := by decide +kernel
theorem dX1_fullestBoard_80 : decode cX1_fullestBoard 80 = .ok (.iload_n 1, 1) := by decide +kernel
theorem dX1_fullestBoard_81 : decode cX1_fullestBoard 81 = .ok (.iload_n 3, 1) := by decide +kernel
theorem dX1_fullestBoard_82 : decode cX1_fullestBoard 82 = .ok (.iload 4, 2) := by decide +kernel
theorem dX1_fullestBoard_84 : decode cX1_fullestBoard 84 = .ok (.invokestatic 92, 3) := by decide +kernel
theorem dX1_fullestBoard_87 : decode cX1_fullestBoard 87 = .ok (.invokestatic 92, 3) := by decide +kernel
theorem dX1_fullestBoard_90 : decode cX1_fullestBoard 90 = .ok (.istore_n 1, 1) := by decide +kernel
theorem dX1_fullestBoard_91 : decode cX1_fullestBoard 91 = .ok (.iinc 2 1, 3) := by decide +kernel
theorem dX1_fullestBoard_94 : decode cX1_fullestBoard 94 = .ok (.goto (-90), 3) := by decide +kernel
theorem dX1_fullestBoard_97 : decode cX1_fullestBoard 97 = .ok (.iload_n 1, 1) := by decide +kernel
theorem dX1_fullestBoard_98 : decode cX1_fullestBoard 98 = .ok (.ireturn, 1) := by decide +kernel
set_option maxRecDepth 20000 in
theorem ggX1_addCall_X4_set : GoodIn wsX1_addCall wsX4_set := goodIn_r _ [9, 10, 27] (by decide +kernel) (by decide +kernel)
set_option maxRecDepth 20000 in
theorem gX1_addCall_X4_set : GoodIn wsX1_addCall (wsV RX1 97 RX4 yX4_set wsX4_set) := goodIn_app (goodIn_of _ (by decide +kernel)) ggX1_addCall_X4_set
theorem dX1_addCall_0 : decode cX1_addCall 0 = .ok (.aload_n 0, 1) := by decide +kernel
theorem dX1_addCall_1 : decode cX1_addCall 1 = .ok (.getfield 29, 3) := by decide +kernel
theorem dX1_addCall_4 : decode cX1_addCall 4 = .ok (.iload_n 1, 1) := by decide +kernel
theorem dX1_addCall_5 : decode cX1_addCall 5 = .ok (.aload_n 0, 1) := by decide +kernel
theorem dX1_addCall_6 : decode cX1_addCall 6 = .ok (.getfield 54, 3) := by decide +kernel
theorem dX1_addCall_9 : decode cX1_addCall 9 = .ok (.invokevirtual 97, 3) := by decide +kernel
theorem dX1_addCall_12 : decode cX1_addCall 12 = .ok (.aload_n 0, 1) := by decide +kernel
theorem dX1_addCall_13 : decode cX1_addCall 13 = .ok (.getfield 33, 3) := by decide +kernel
theorem dX1_addCall_16 : decode cX1_addCall 16 = .ok (.iload_n 1, 1) := by decide +kernel
theorem dX1_addCall_17 : decode cX1_addCall 17 = .ok (.iload_n 2, 1) := by decide +kernel
theorem dX1_addCall_18 : decode cX1_addCall 18 = .ok (.invokevirtual 97, 3) := by decide +kernel
theorem dX1_addCall_21 : decode cX1_addCall 21 = .ok (.aload_n 0, 1) := by decide +kernel
theorem dX1_addCall_22 : decode cX1_addCall 22 = .ok (.getfield 39, 3) := by decide +kernel
theorem dX1_addCall_25 : decode cX1_addCall 25 = .ok (.iload_n 2, 1) := by decide +kernel
theorem dX1_addCall_26 : decode cX1_addCall 26 = .ok (.iload_n 1, 1) := by decide +kernel
theorem dX1_addCall_27 : decode cX1_addCall 27 = .ok (.invokevirtual 97, 3) := by decide +kernel
theorem dX1_addCall_30 : decode cX1_addCall 30 = .ok (.aload_n 0, 1) := by decide +kernel
theorem dX1_addCall_31 : decode cX1_addCall 31 = .ok (.dup, 1) := by decide +kernel
theorem dX1_addCall_32 : decode cX1_addCall 32 = .ok (.getfield 54, 3) := by decide +kernel
theorem dX1_addCall_35 : decode cX1_addCall 35 = .ok (.iconst 1, 1) := by decide +kernel
theorem dX1_addCall_36 : decode cX1_addCall 36 = .ok (.iadd, 1) := by decide +kernel
theorem dX1_addCall_37 : decode cX1_addCall 37 = .ok (.putfield 54, 3) := by decide +kernel
theorem dX1_addCall_40 : decode cX1_addCall 40 = .ok (.return_, 1) := by decide +kernel
set_option maxRecDepth 20000 in
theorem ggX1_removeCall_X1_liftCall : GoodIn wsX1_removeCall wsX1_liftCall := goodIn_r _ [8, 9, 10, 11, 2, 12, 13, 14, 15, 16, 17, 18, 19, 20, 7, 21, 22, 23, 24, 25, 26, 27, 28, 29, 30, 31, 32, 33, 34, 35, 36, 37, 38, 39, 40, 41, 42, 43, 44, 45, 46] (by decide +kernel) (by decide +kernel)
set_option maxRecDepth 20000 in
theorem gX1_removeCall_X1_liftCall : GoodIn wsX1_removeCall (wsV RX1 101 RX1 yX1_liftCall wsX1_liftCall) := goodIn_app (goodIn_of _ (by decide +kernel)) ggX1_removeCall_X1_liftCall
set_option maxRecDepth 20000 in
theorem ggX1_removeCall_X4_get : GoodIn wsX1_removeCall wsX4_get := goodIn_r _ [16, 17, 46] (by decide +kernel) (by decide +kernel)
set_option maxRecDepth 20000 in
theorem gX1_removeCall_X4_get : GoodIn wsX1_removeCall (wsV RX1 77 RX4 yX4_get wsX4_get) := goodIn_app (goodIn_of _ (by decide +kernel)) ggX1_removeCall_X4_get
set_option maxRecDepth 20000 in
theorem ggX1_removeCall_X4_set : GoodIn wsX1_removeCall wsX4_set := goodIn_r _ [29, 17, 46] (by decide +kernel) (by decide +kernel)
set_option maxRecDepth 20000 in
theorem gX1_removeCall_X4_set : GoodIn wsX1_removeCall (wsV RX1 97 RX4 yX4_set wsX4_set) := goodIn_app (goodIn_of _ (by decide +kernel)) ggX1_removeCall_X4_set
theorem dX1_removeCall_0 : decode cX1_removeCall 0 = .ok (.aload_n 0, 1) := by decide +kernel
theorem dX1_removeCall_1 : decode cX1_removeCall 1 = .ok (.iload_n 1, 1) := by decide +kernel
theorem dX1_removeCall_2 : decode cX1_removeCall 2 = .ok (.invokevirtual 101, 3) := by decide +kernel
theorem dX1_removeCall_5 : decode cX1_removeCall 5 = .ok (.aload_n 0, 1) := by decide +kernel
theorem dX1_removeCall_6 : decode cX1_removeCall 6 = .ok (.getfield 39, 3) := by decide +kernel
theorem dX1_removeCall_9 : decode cX1_removeCall 9 = .ok (.aload_n 0, 1) := by decide +kernel
theorem dX1_removeCall_10 : decode cX1_removeCall 10 = .ok (.getfield 33, 3) := by decide +kernel
theorem dX1_removeCall_13 : decode cX1_removeCall 13 = .ok (.iload_n 1, 1) := by decide +kernel
theorem dX1_removeCall_14 : decode cX1_removeCall 14 = .ok (.invokevirtual 77, 3) := by decide +kernel
theorem dX1_removeCall_17 : decode cX1_removeCall 17 = .ok (.bipush (-6), 2) := by decide +kernel
theorem dX1_removeCall_19 : decode cX1_removeCall 19 = .ok (.invokevirtual 97, 3) := by decide +kernel
theorem dX1_removeCall_22 : decode cX1_removeCall 22 = .ok (.aload_n 0, 1) := by decide +kernel
theorem dX1_removeCall_23 : decode cX1_removeCall 23 = .ok (.getfield 33, 3) := by decide +kernel
theorem dX1_removeCall_26 : decode cX1_removeCall 26 = .ok (.iload_n 1, 1) := by decide +kernel
theorem dX1_removeCall_27 : decode cX1_removeCall 27 = .ok (.bipush (-6), 2) := by decide +kernel
theorem dX1_removeCall_29 : decode cX1_removeCall 29 = .ok (.invokevirtual 97, 3) := by decide +kernel
theorem dX1_removeCall_32 : decode cX1_removeCall 32 = .ok (.aload_n 0, 1) := by decide +kernel
theorem dX1_removeCall_33 : decode cX1_removeCall 33 = .ok (.getfield 29, 3) := by decide +kernel
theorem dX1_removeCall_36 : decode cX1_removeCall 36 = .ok (.iload_n 1, 1) := by decide +kernel
theorem dX1_removeCall_37 : decode cX1_removeCall 37 = .ok (.bipush (-6), 2) := by decide +kernel
theorem dX1_removeCall_39 : decode cX1_removeCall 39 = .ok (.invokevirtual 97, 3) := by decide +kernel
theorem dX1_removeCall_42 : decode cX1_removeCall 42 = .ok (.return_, 1) := by decide +kernel
set_option maxRecDepth 20000 in
theorem ggX1_carryCall_X4_set : GoodIn wsX1_carryCall wsX4_set := goodIn_r _ [9, 10, 40] (by decide +kernel) (by decide +kernel)
set_option maxRecDepth 20000 in
theorem gX1_carryCall_X4_set : GoodIn wsX1_carryCall (wsV RX1 97 RX4 yX4_set wsX4_set) := goodIn_app (goodIn_of _ (by decide +kernel)) ggX1_carryCall_X4_set
set_option maxRecDepth 20000 in
theorem ggX1_carryCall_X1_boardOf : GoodIn wsX1_carryCall wsX1_boardOf := goodIn_r _ [15, 16, 24, 25, 26, 27, 28, 29, 30, 31, 32, 33, 34, 35, 36, 37, 38, 39] (by decide +kernel) (by decide +kernel)
set_option maxRecDepth 20000 in
theorem gX1_carryCall_X1_boardOf : GoodIn wsX1_carryCall (wsV RX1 104 RX1 yX1_boardOf wsX1_boardOf) := goodIn_app (goodIn_of _ (by decide +kernel)) ggX1_carryCall_X1_boardOf
set_option maxRecDepth 20000 in
theorem ggX1_carryCall_X5_link : GoodIn wsX1_carryCall wsX5_link := goodIn_r _ [19] (by decide +kernel) (by decide +kernel)
set_option maxRecDepth 20000 in
theorem gX1_carryCall_X5_link_n81 : GoodIn wsX1_carryCall (wsX5_link) := ggX1_carryCall_X5_link
set_option maxRecDepth 20000 in
theorem ggX1_carryCall_X4_get : GoodIn wsX1_carryCall wsX4_get := goodIn_r _ [23, 10, 40] (by decide +kernel) (by decide +kernel)
set_option maxRecDepth 20000 in
theorem gX1_carryCall_X4_get : GoodIn wsX1_carryCall (wsV RX1 77 RX4 yX4_get wsX4_get) := goodIn_app (goodIn_of _ (by decide +kernel)) ggX1_carryCall_X4_get
theorem dX1_carryCall_0 : decode cX1_carryCall 0 = .ok (.aload_n 0, 1) := by decide +kernel
theorem dX1_carryCall_1 : decode cX1_carryCall 1 = .ok (.getfield 36, 3) := by decide +kernel
theorem dX1_carryCall_4 : decode cX1_carryCall 4 = .ok (.iload_n 1, 1) := by decide +kernel
theorem dX1_carryCall_5 : decode cX1_carryCall 5 = .ok (.iload_n 2, 1) := by decide +kernel
theorem dX1_carryCall_6 : decode cX1_carryCall 6 = .ok (.invokevirtual 97, 3) := by decide +kernel
theorem dX1_carryCall_9 : decode cX1_carryCall 9 = .ok (.aload_n 0, 1) := by decide +kernel
theorem dX1_carryCall_10 : decode cX1_carryCall 10 = .ok (.getfield 42, 3) := by decide +kernel
theorem dX1_carryCall_13 : decode cX1_carryCall 13 = .ok (.aload_n 0, 1) := by decide +kernel
theorem dX1_carryCall_14 : decode cX1_carryCall 14 = .ok (.iload_n 1, 1) := by decide +kernel
theorem dX1_carryCall_15 : decode cX1_carryCall 15 = .ok (.invokevirtual 104, 3) := by decide +kernel
theorem dX1_carryCall_18 : decode cX1_carryCall 18 = .ok (.iload_n 2, 1) := by decide +kernel
theorem dX1_carryCall_19 : decode cX1_carryCall 19 = .ok (.invokestatic 81, 3) := by decide +kernel
theorem dX1_carryCall_22 : decode cX1_carryCall 22 = .ok (.iload_n 1, 1) := by decide +kernel
theorem dX1_carryCall_23 : decode cX1_carryCall 23 = .ok (.invokevirtual 97, 3) := by decide +kernel
theorem dX1_carryCall_26 : decode cX1_carryCall 26 = .ok (.aload_n 0, 1) := by decide +kernel
theorem dX1_carryCall_27 : decode cX1_carryCall 27 = .ok (.getfield 45, 3) := by decide +kernel
theorem dX1_carryCall_30 : decode cX1_carryCall 30 = .ok (.aload_n 0, 1) := by decide +kernel
theorem dX1_carryCall_31 : decode cX1_carryCall 31 = .ok (.aload_n 0, 1) := by decide +kernel
theorem dX1_carryCall_32 : decode cX1_carryCall 32 = .ok (.getfield 33, 3) := by decide +kernel
theorem dX1_carryCall_35 : decode cX1_carryCall 35 = .ok (.iload_n 1, 1) := by decide +kernel
theorem dX1_carryCall_36 : decode cX1_carryCall 36 = .ok (.invokevirtual 77, 3) := by decide +kernel
theorem dX1_carryCall_39 : decode cX1_carryCall 39 = .ok (.invokevirtual 104, 3) := by decide +kernel
theorem dX1_carryCall_42 : decode cX1_carryCall 42 = .ok (.iload_n 2, 1) := by decide +kernel
theorem dX1_carryCall_43 : decode cX1_carryCall 43 = .ok (.invokestatic 81, 3) := by decide +kernel
theorem dX1_carryCall_46 : decode cX1_carryCall 46 = .ok (.iload_n 1, 1) := by decide +kernel
theorem dX1_carryCall_47 : decode cX1_carryCall 47 = .ok (.invokevirtual 97, 3) := by decide +kernel
theorem dX1_carryCall_50 : decode cX1_carryCall 50 = .ok (.return_, 1) := by decide +kernel
set_option maxRecDepth 20000 in
theorem ggX1_liftCall_X4_get : GoodIn wsX1_liftCall wsX4_get := goodIn_r _ [9, 10, 40] (by decide +kernel) (by decide +kernel)
set_option maxRecDepth 20000 in
theorem gX1_liftCall_X4_get : GoodIn wsX1_liftCall (wsV RX1 77 RX4 yX4_get wsX4_get) := goodIn_app (goodIn_of _ (by decide +kernel)) ggX1_liftCall_X4_get
set_option maxRecDepth 20000 in
theorem ggX1_liftCall_X1_boardOf : GoodIn wsX1_liftCall wsX1_boardOf := goodIn_r _ [15, 16, 24, 25, 26, 27, 28, 29, 30, 31, 32, 33, 34, 35, 36, 37, 38, 39] (by decide +kernel) (by decide +kernel)
set_option maxRecDepth 20000 in
theorem gX1_liftCall_X1_boardOf : GoodIn wsX1_liftCall (wsV RX1 104 RX1 yX1_boardOf wsX1_boardOf) := goodIn_app (goodIn_of _ (by decide +kernel)) ggX1_liftCall_X1_boardOf
set_option maxRecDepth 20000 in
theorem ggX1_liftCall_X5_link : GoodIn wsX1_liftCall wsX5_link := goodIn_r _ [19] (by decide +kernel) (by decide +kernel)
set_option maxRecDepth 20000 in
theorem gX1_liftCall_X5_link_n81 : GoodIn wsX1_liftCall (wsX5_link) := ggX1_liftCall_X5_link
set_option maxRecDepth 20000 in
theorem ggX1_liftCall_X4_set : GoodIn wsX1_liftCall wsX4_set := goodIn_r _ [23, 10, 40] (by decide +kernel) (by decide +kernel)
set_option maxRecDepth 20000 in
theorem gX1_liftCall_X4_set : GoodIn wsX1_liftCall (wsV RX1 97 RX4 yX4_set wsX4_set) := goodIn_app (goodIn_of _ (by decide +kernel)) ggX1_liftCall_X4_set
theorem dX1_liftCall_0 : decode cX1_liftCall 0 = .ok (.aload_n 0, 1) := by decide +kernel
theorem dX1_liftCall_1 : decode cX1_liftCall 1 = .ok (.getfield 36, 3) := by decide +kernel
theorem dX1_liftCall_4 : decode cX1_liftCall 4 = .ok (.iload_n 1, 1) := by decide +kernel
theorem dX1_liftCall_5 : decode cX1_liftCall 5 = .ok (.invokevirtual 77, 3) := by decide +kernel
theorem dX1_liftCall_8 : decode cX1_liftCall 8 = .ok (.istore_n 2, 1) := by decide +kernel
theorem dX1_liftCall_9 : decode cX1_liftCall 9 = .ok (.iload_n 2, 1) := by decide +kernel
theorem dX1_liftCall_10 : decode cX1_liftCall 10 = .ok (.ifCond .lt 56, 3) := by decide +kernel
theorem dX1_liftCall_13 : decode cX1_liftCall 13 = .ok (.aload_n 0, 1) := by decide +kernel
theorem dX1_liftCall_14 : decode cX1_liftCall 14 = .ok (.getfield 42, 3) := by decide +kernel
theorem dX1_liftCall_17 : decode cX1_liftCall 17 = .ok (.aload_n 0, 1) := by decide +kernel
theorem dX1_liftCall_18 : decode cX1_liftCall 18 = .ok (.iload_n 1, 1) := by decide +kernel
theorem dX1_liftCall_19 : decode cX1_liftCall 19 = .ok (.invokevirtual 104, 3) := by decide +kernel
theorem dX1_liftCall_22 : decode cX1_liftCall 22 = .ok (.iload_n 2, 1) := by decide +kernel
theorem dX1_liftCall_23 : decode cX1_liftCall 23 = .ok (.invokestatic 81, 3) := by decide +kernel
theorem dX1_liftCall_26 : decode cX1_liftCall 26 = .ok (.bipush (-6), 2) := by decide +kernel
theorem dX1_liftCall_28 : decode cX1_liftCall 28 = .ok (.invokevirtual 97, 3) := by decide +kernel
theorem dX1_liftCall_31 : decode cX1_liftCall 31 = .ok (.aload_n 0, 1) := by decide +kernel
theorem dX1_liftCall_32 : decode cX1_liftCall 32 = .ok (.getfield 45, 3) := by decide +kernel
theorem dX1_liftCall_35 : decode cX1_liftCall 35 = .ok (.aload_n 0, 1) := by decide +kernel
theorem dX1_liftCall_36 : decode cX1_liftCall 36 = .ok (.aload_n 0, 1) := by decide +kernel
theorem dX1_liftCall_37 : decode cX1_liftCall 37 = .ok (.getfield 33, 3) := by decide +kernel
theorem dX1_liftCall_40 : decode cX1_liftCall 40 = .ok (.iload_n 1, 1) := by decide +kernel
theorem dX1_liftCall_41 : decode cX1_liftCall 41 = .ok (.invokevirtual 77, 3) := by decide +kernel
theorem dX1_liftCall_44 : decode cX1_liftCall 44 = .ok (.invokevirtual 104, 3) := by decide +kernel
theorem dX1_liftCall_47 : decode cX1_liftCall 47 = .ok (.iload_n 2, 1) := by decide +kernel
theorem dX1_liftCall_48 : decode cX1_liftCall 48 = .ok (.invokestatic 81, 3) := by decide +kernel
theorem dX1_liftCall_51 : decode cX1_liftCall 51 = .ok (.bipush (-6), 2) := by decide +kernel
theorem dX1_liftCall_53 : decode cX1_liftCall 53 = .ok (.invokevirtual 97, 3) := by decide +kernel
theorem dX1_liftCall_56 : decode cX1_liftCall 56 = .ok (.aload_n 0, 1) := by decide +kernel
theorem dX1_liftCall_57 : decode cX1_liftCall 57 = .ok (.getfield 36, 3) := by decide +kernel
theorem dX1_liftCall_60 : decode cX1_liftCall 60 = .ok (.iload_n 1, 1) := by decide +kernel
theorem dX1_liftCall_61 : decode cX1_liftCall 61 = .ok (.bipush (-6), 2) := by decide +kernel
theorem dX1_liftCall_63 : decode cX1_liftCall 63 = .ok (.invokevirtual 97, 3) := by decide +kernel
theorem dX1_liftCall_66 : decode cX1_liftCall 66 = .ok (.return_, 1) := by decide +kernel
set_option maxRecDepth 20000 in
theorem ggX1_firstLifted_X1_isInletBusy : GoodIn wsX1_firstLifted wsX1_isInletBusy := goodIn_r _ [7, 2, 8, 9, 10, 11, 12, 13, 14, 15, 16, 17, 18, 19, 20, 21, 22, 23, 24, 25, 26, 27, 28, 29, 30] (by decide +kernel) (by decide +kernel)
set_option maxRecDepth 20000 in
theorem gX1_firstLifted_X1_isInletBusy : GoodIn wsX1_firstLifted (wsV RX1 85 RX1 yX1_isInletBusy wsX1_isInletBusy) := goodIn_app (goodIn_of _ (by decide +kernel)) ggX1_firstLifted_X1_isInletBusy
set_option maxRecDepth 20000 in
theorem ggX1_firstLifted_X4_get : GoodIn wsX1_firstLifted wsX4_get := goodIn_r _ [12, 13, 30] (by decide +kernel) (by decide +kernel)
set_option maxRecDepth 20000 in
theorem gX1_firstLifted_X4_get : GoodIn wsX1_firstLifted (wsV RX1 77 RX4 yX4_get wsX4_get) := goodIn_app (goodIn_of _ (by decide +kernel)) ggX1_firstLifted_X4_get
theorem dX1_firstLifted_0 : decode cX1_firstLifted 0 = .ok (.bipush (-6), 2) := by decide +kernel
theorem dX1_firstLifted_2 : decode cX1_firstLifted 2 = .ok (.istore_n 1, 1) := by decide +kernel
theorem dX1_firstLifted_3 : decode cX1_firstLifted 3 = .ok (.iconst 0, 1) := by decide +kernel
theorem dX1_firstLifted_4 : decode cX1_firstLifted 4 = .ok (.istore_n 2, 1) := by decide +kernel
theorem dX1_firstLifted_5 : decode cX1_firstLifted 5 = .ok (.iload_n 2, 1) := by decide +kernel
theorem dX1_firstLifted_6 : decode cX1_firstLifted 6 = .ok (.bipush 48, 2) := by decide +kernel
theorem dX1_firstLifted_8 : decode cX1_firstLifted 8 = .ok (.if_icmp .ge 53, 3) := by decide +kernel
theorem dX1_firstLifted_11 : decode cX1_firstLifted 11 = .ok (.aload_n 0, 1) := by decide +kernel
theorem dX1_firstLifted_12 : decode cX1_firstLifted 12 = .ok (.iload_n 2, 1) := by decide +kernel
theorem dX1_firstLifted_13 : decode cX1_firstLifted 13 = .ok (.invokevirtual 85, 3) := by decide +kernel
theorem dX1_firstLifted_16 : decode cX1_firstLifted 16 = .ok (.ifCond .eq 39, 3) := by decide +kernel
theorem dX1_firstLifted_19 : decode cX1_firstLifted 19 = .ok (.aload_n 0, 1) := by decide +kernel
theorem dX1_firstLifted_20 : decode cX1_firstLifted 20 = .ok (.getfield 36, 3) := by decide +kernel
theorem dX1_firstLifted_23 : decode cX1_firstLifted 23 = .ok (.iload_n 2, 1) := by decide +kernel
theorem dX1_firstLifted_24 : decode cX1_firstLifted 24 = .ok (.invokevirtual 77, 3) := by decide +kernel
theorem dX1_firstLifted_27 : decode cX1_firstLifted 27 = .ok (.ifCond .ge 28, 3) := by decide +kernel
theorem dX1_firstLifted_30 : decode cX1_firstLifted 30 = .ok (.iload_n 1, 1) := by decide +kernel
theorem dX1_firstLifted_31 : decode cX1_firstLifted 31 = .ok (.ifCond .lt 22, 3) := by decide +kernel
theorem dX1_firstLifted_34 : decode cX1_firstLifted 34 = .ok (.aload_n 0, 1) := by decide +kernel
theorem dX1_firstLifted_35 : decode cX1_firstLifted 35 = .ok (.getfield 29, 3) := by decide +kernel
theorem dX1_firstLifted_38 : decode cX1_firstLifted 38 = .ok (.iload_n 2, 1) := by decide +kernel
theorem dX1_firstLifted_39 : decode cX1_firstLifted 39 = .ok (.invokevirtual 77, 3) := by decide +kernel
theorem dX1_firstLifted_42 : decode cX1_firstLifted 42 = .ok (.aload_n 0, 1) := by decide +kernel
theorem dX1_firstLifted_43 : decode cX1_firstLifted 43 = .ok (.getfield 29, 3) := by decide +kernel
theorem dX1_firstLifted_46 : decode cX1_firstLifted 46 = .ok (.iload_n 1, 1) := by decide +kernel
theorem dX1_firstLifted_47 : decode cX1_firstLifted 47 = .ok (.invokevirtual 77, 3) := by decide +kernel
theorem dX1_firstLifted_50 : decode cX1_firstLifted 50 = .ok (.if_icmp .ge 5, 3) := by decide +kernel
theorem dX1_firstLifted_53 : decode cX1_firstLifted 53 = .ok (.iload_n 2, 1) := by decide +kernel
theorem dX1_firstLifted_54 : decode cX1_firstLifted 54 = .ok (.istore_n 1, 1) := by decide +kernel
theorem dX1_firstLifted_55 : decode cX1_firstLifted 55 = .ok (.iinc 2 1, 3) := by decide +kernel
theorem dX1_firstLifted_58 : decode cX1_firstLifted 58 = .ok (.goto (-53), 3) := by decide +kernel
theorem dX1_firstLifted_61 : decode cX1_firstLifted 61 = .ok (.iload_n 1, 1) := by decide +kernel
theorem dX1_firstLifted_62 : decode cX1_firstLifted 62 = .ok (.ireturn, 1) := by decide +kernel
