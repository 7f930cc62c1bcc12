set_option maxRecDepth 100000 in
theorem ggL_isReached_X5_callOfInlet : GoodIn wsL_isReached wsX5_callOfInlet := goodIn_r _ [5, 6, 7, 8, 9, 10, 11, 12, 13, 14, 15, 16, 17, 18, 19, 20, 75, 76, 77, 78, 79, 80, 81, 82, 83, 84, 85, 86, 87, 88, 89, 90, 91, 92, 93, 94, 95, 96, 97, 98, 99] rfl (by decide +kernel)
set_option maxRecDepth 100000 in
theorem gL_isReached_X5_callOfInlet : GoodIn wsL_isReached (wsV RL 17 RX5 yX5_callOfInlet wsX5_callOfInlet) := goodIn_app (goodIn_of _ (by decide +kernel)) ggL_isReached_X5_callOfInlet
set_option maxRecDepth 100000 in
theorem ggL_isReached_X5_total : GoodIn wsL_isReached wsX5_total := goodIn_r _ [24, 6, 25, 26, 27, 28, 29, 30, 31, 32, 33, 34, 35, 36, 37, 38, 39, 40, 11, 41, 42, 43, 16, 17, 18, 19, 20, 75, 76, 77, 78, 79, 80, 81, 82, 83, 84, 85, 86, 87, 88, 89, 90, 91, 92, 93, 94, 95, 96, 97, 98, 100, 101, 102, 103, 104, 105, 106, 107, 108, 99] rfl (by decide +kernel)
set_option maxRecDepth 100000 in
theorem gL_isReached_X5_total : GoodIn wsL_isReached (wsV RL 11 RX5 yX5_total wsX5_total) := goodIn_app (goodIn_of _ (by decide +kernel)) ggL_isReached_X5_total
set_option maxRecDepth 100000 in
theorem ggL_isReached_X5_reason : GoodIn wsL_isReached wsX5_reason := goodIn_r _ [47, 6, 48, 49, 8, 9, 10, 11, 12, 13, 14, 50, 51, 52, 53, 42, 43, 16, 17, 18, 19, 20, 54, 55, 56, 57, 58, 59, 60, 61, 62, 63, 64, 65, 66, 67, 68, 69, 4, 70, 75, 76, 77, 78, 79, 80, 81, 82, 83, 84, 85, 86, 87, 88, 89, 90, 91, 92, 93, 94, 95, 96, 97, 98, 99] rfl (by decide +kernel)
set_option maxRecDepth 100000 in
theorem gL_isReached_X5_reason : GoodIn wsL_isReached (wsV RL 104 RX5 yX5_reason wsX5_reason) := goodIn_app (goodIn_of _ (by decide +kernel)) ggL_isReached_X5_reason
set_option maxRecDepth 100000 in
theorem ggL_isReached_X5_reachable : GoodIn wsL_isReached wsX5_reachable := goodIn_r _ [74, 6, 48, 49, 8, 9, 10, 11, 12, 13, 14, 50, 51, 52, 53, 42, 43, 16, 17, 18, 19, 20, 59, 60, 61, 62, 63, 64, 65, 66, 67, 68, 69, 4, 70, 54, 55, 56, 57, 58, 75, 76, 77, 78, 79, 80, 81, 82, 83, 84, 85, 86, 87, 88, 89, 90, 91, 92, 93, 94, 95, 96, 97, 98, 99] rfl (by decide +kernel)
set_option maxRecDepth 100000 in
theorem gL_isReached_X5_reachable : GoodIn wsL_isReached (wsV RL 113 RX5 yX5_reachable wsX5_reachable) := goodIn_app (goodIn_of _ (by decide +kernel)) ggL_isReached_X5_reachable
theorem dL_isReached_0 : decode cL_isReached 0 = .ok (.iconst 0, 1) := by decide +kernel
theorem dL_isReached_1 : decode cL_isReached 1 = .ok (.istore_n 2, 1) := by decide +kernel
theorem dL_isReached_2 : decode cL_isReached 2 = .ok (.aload_n 0, 1) := by decide +kernel
theorem dL_isReached_3 : decode cL_isReached 3 = .ok (.iload_n 1, 1) := by decide +kernel
theorem dL_isReached_4 : decode cL_isReached 4 = .ok (.invokevirtual 17, 3) := by decide +kernel
theorem dL_isReached_7 : decode cL_isReached 7 = .ok (.bipush (-6), 2) := by decide +kernel
theorem dL_isReached_9 : decode cL_isReached 9 = .ok (.if_icmp .eq 7, 3) := by decide +kernel
theorem dL_isReached_12 : decode cL_isReached 12 = .ok (.iconst 1, 1) := by decide +kernel
theorem dL_isReached_13 : decode cL_isReached 13 = .ok (.goto 4, 3) := by decide +kernel
theorem dL_isReached_16 : decode cL_isReached 16 = .ok (.iconst 0, 1) := by decide +kernel
theorem dL_isReached_17 : decode cL_isReached 17 = .ok (.istore_n 3, 1) := by decide +kernel
theorem dL_isReached_18 : decode cL_isReached 18 = .ok (.iconst 0, 1) := by decide +kernel
theorem dL_isReached_19 : decode cL_isReached 19 = .ok (.istore 4, 2) := by decide +kernel
theorem dL_isReached_21 : decode cL_isReached 21 = .ok (.iload 4, 2) := by decide +kernel
theorem dL_isReached_23 : decode cL_isReached 23 = .ok (.aload_n 0, 1) := by decide +kernel
theorem dL_isReached_24 : decode cL_isReached 24 = .ok (.iconst 0, 1) := by decide +kernel
theorem dL_isReached_25 : decode cL_isReached 25 = .ok (.invokevirtual 11, 3) := by decide +kernel
theorem dL_isReached_28 : decode cL_isReached 28 = .ok (.aload_n 0, 1) := by decide +kernel
theorem dL_isReached_29 : decode cL_isReached 29 = .ok (.iconst 1, 1) := by decide +kernel
theorem dL_isReached_30 : decode cL_isReached 30 = .ok (.invokevirtual 11, 3) := by decide +kernel
theorem dL_isReached_33 : decode cL_isReached 33 = .ok (.imul, 1) := by decide +kernel
theorem dL_isReached_34 : decode cL_isReached 34 = .ok (.if_icmp .ge 27, 3) := by decide +kernel
theorem dL_isReached_37 : decode cL_isReached 37 = .ok (.iload_n 2, 1) := by decide +kernel
theorem dL_isReached_38 : decode cL_isReached 38 = .ok (.aload_n 0, 1) := by decide +kernel
theorem dL_isReached_39 : decode cL_isReached 39 = .ok (.iload_n 1, 1) := by decide +kernel
theorem dL_isReached_40 : decode cL_isReached 40 = .ok (.iload 4, 2) := by decide +kernel
theorem dL_isReached_42 : decode cL_isReached 42 = .ok (.invokevirtual 104, 3) := by decide +kernel
theorem dL_isReached_45 : decode cL_isReached 45 = .ok (.ifCond .ne 7, 3) := by decide +kernel
theorem dL_isReached_48 : decode cL_isReached 48 = .ok (.iconst 1, 1) := by decide +kernel
theorem dL_isReached_49 : decode cL_isReached 49 = .ok (.goto 4, 3) := by decide +kernel
theorem dL_isReached_52 : decode cL_isReached 52 = .ok (.iconst 0, 1) := by decide +kernel
theorem dL_isReached_53 : decode cL_isReached 53 = .ok (.iadd, 1) := by decide +kernel
theorem dL_isReached_54 : decode cL_isReached 54 = .ok (.istore_n 2, 1) := by decide +kernel
theorem dL_isReached_55 : decode cL_isReached 55 = .ok (.iinc 4 1, 3) := by decide +kernel
theorem dL_isReached_58 : decode cL_isReached 58 = .ok (.goto (-37), 3) := by decide +kernel
theorem dL_isReached_61 : decode cL_isReached 61 = .ok (.iload_n 3, 1) := by decide +kernel
theorem dL_isReached_62 : decode cL_isReached 62 = .ok (.ifCond .eq 25, 3) := by decide +kernel
theorem dL_isReached_65 : decode cL_isReached 65 = .ok (.iload_n 2, 1) := by decide +kernel
theorem dL_isReached_66 : decode cL_isReached 66 = .ok (.ifCond .ne 17, 3) := by decide +kernel
theorem dL_isReached_69 : decode cL_isReached 69 = .ok (.aload_n 0, 1) := by decide +kernel
theorem dL_isReached_70 : decode cL_isReached 70 = .ok (.iload_n 1, 1) := by decide +kernel
theorem dL_isReached_71 : decode cL_isReached 71 = .ok (.invokevirtual 113, 3) := by decide +kernel
theorem dL_isReached_74 : decode cL_isReached 74 = .ok (.bipush (-3), 2) := by decide +kernel
theorem dL_isReached_76 : decode cL_isReached 76 = .ok (.if_icmp .ne 7, 3) := by decide +kernel
theorem dL_isReached_79 : decode cL_isReached 79 = .ok (.iconst 1, 1) := by decide +kernel
theorem dL_isReached_80 : decode cL_isReached 80 = .ok (.goto 21, 3) := by decide +kernel
theorem dL_isReached_83 : decode cL_isReached 83 = .ok (.iconst 0, 1) := by decide +kernel
theorem dL_isReached_84 : decode cL_isReached 84 = .ok (.goto 17, 3) := by decide +kernel
theorem dL_isReached_87 : decode cL_isReached 87 = .ok (.aload_n 0, 1) := by decide +kernel
theorem dL_isReached_88 : decode cL_isReached 88 = .ok (.iload_n 1, 1) := by decide +kernel
theorem dL_isReached_89 : decode cL_isReached 89 = .ok (.invokevirtual 113, 3) := by decide +kernel
theorem dL_isReached_92 : decode cL_isReached 92 = .ok (.iload_n 2, 1) := by decide +kernel
theorem dL_isReached_93 : decode cL_isReached 93 = .ok (.if_icmp .ne 7, 3) := by decide +kernel
theorem dL_isReached_96 : decode cL_isReached 96 = .ok (.iconst 1, 1) := by decide +kernel
theorem dL_isReached_97 : decode cL_isReached 97 = .ok (.goto 4, 3) := by decide +kernel
theorem dL_isReached_100 : decode cL_isReached 100 = .ok (.iconst 0, 1) := by decide +kernel
theorem dL_isReached_101 : decode cL_isReached 101 = .ok (.ireturn, 1) := by decide +kernel
