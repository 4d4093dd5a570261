set_option maxRecDepth 20000 in
theorem gX2_coveredBits_X2_highest : GoodIn wsX2_coveredBits (wsV RX2 230 RX2 yX2_highest wsX2_highest) := goodIn_app (goodIn_of _ (by decide +kernel)) ggX2_coveredBits_X2_highest
set_option maxRecDepth 20000 in
theorem ggX2_coveredBits_X2_isRight : GoodIn wsX2_coveredBits wsX2_isRight := goodIn_r _ [38, 39, 40, 41, 4, 42, 14, 15, 16, 17, 18, 19, 20, 21, 43, 44, 45, 25, 46, 47, 27, 48, 49, 50, 51, 84, 85, 86, 87, 88, 89, 90, 91, 92, 93, 94, 95, 96] (by decide +kernel) (by decide +kernel)
set_option maxRecDepth 20000 in
theorem gX2_coveredBits_X2_isRight : GoodIn wsX2_coveredBits (wsV RX2 135 RX2 yX2_isRight wsX2_isRight) := goodIn_app (goodIn_of _ (by decide +kernel)) ggX2_coveredBits_X2_isRight
set_option maxRecDepth 20000 in
theorem ggX2_coveredBits_X2_rightmost : GoodIn wsX2_coveredBits wsX2_rightmost := goodIn_r _ [55, 32, 33, 8, 34, 56, 57, 58, 4, 59, 14, 15, 16, 17, 18, 19, 20, 21, 60, 61, 62, 25, 63, 47, 84, 85, 86, 87, 88, 89, 90, 91, 92, 93, 94, 95, 96] (by decide +kernel) (by decide +kernel)
set_option maxRecDepth 20000 in
theorem gX2_coveredBits_X2_rightmost : GoodIn wsX2_coveredBits (wsV RX2 233 RX2 yX2_rightmost wsX2_rightmost) := goodIn_app (goodIn_of _ (by decide +kernel)) ggX2_coveredBits_X2_rightmost
set_option maxRecDepth 20000 in
theorem ggX2_coveredBits_X2_leftmost : GoodIn wsX2_coveredBits wsX2_leftmost := goodIn_r _ [67, 6, 7, 8, 9, 56, 57, 58, 4, 59, 14, 15, 16, 17, 18, 19, 20, 21, 60, 61, 62, 25, 63, 47, 84, 85, 86, 87, 88, 89, 90, 91, 92, 93, 94, 95, 96] (by decide +kernel) (by decide +kernel)
set_option maxRecDepth 20000 in
theorem gX2_coveredBits_X2_leftmost : GoodIn wsX2_coveredBits (wsV RX2 236 RX2 yX2_leftmost wsX2_leftmost) := goodIn_app (goodIn_of _ (by decide +kernel)) ggX2_coveredBits_X2_leftmost
set_option maxRecDepth 20000 in
theorem ggX2_coveredBits_X2_sampleOf : GoodIn wsX2_coveredBits wsX2_sampleOf := goodIn_r _ [70] (by decide +kernel) (by decide +kernel)
set_option maxRecDepth 20000 in
theorem gX2_coveredBits_X2_sampleOf : GoodIn wsX2_coveredBits (va_wsS RX2 201 yX2_sampleOf wsX2_sampleOf) := goodIn_app (goodIn_of _ (by decide +kernel)) ggX2_coveredBits_X2_sampleOf
set_option maxRecDepth 20000 in
theorem ggX2_coveredBits_X2_liesInsideOrOnOwnEdges : GoodIn wsX2_coveredBits wsX2_liesInsideOrOnOwnEdges := goodIn_r _ [74, 75, 76, 77, 4, 78, 14, 15, 16, 17, 18, 19, 20, 21, 79, 49, 50, 25, 51, 47, 27, 80, 81, 82, 83, 22, 23, 24, 26, 60, 61, 62, 63, 84, 85, 86, 87, 88, 89, 90, 91, 92, 93, 94, 95, 96] (by decide +kernel) (by decide +kernel)
set_option maxRecDepth 20000 in
theorem gX2_coveredBits_X2_liesInsideOrOnOwnEdges : GoodIn wsX2_coveredBits (wsV RX2 204 RX2 yX2_liesInsideOrOnOwnEdges wsX2_liesInsideOrOnOwnEdges) := goodIn_app (goodIn_of _ (by decide +kernel)) ggX2_coveredBits_X2_liesInsideOrOnOwnEdges
theorem dX2_coveredBits_0 : decode cX2_coveredBits 0 = .ok (.iload_n 2, 1) := by decide +kernel
theorem dX2_coveredBits_1 : decode cX2_coveredBits 1 = .ok (.aload_n 0, 1) := by decide +kernel
theorem dX2_coveredBits_2 : decode cX2_coveredBits 2 = .ok (.iload_n 1, 1) := by decide +kernel
theorem dX2_coveredBits_3 : decode cX2_coveredBits 3 = .ok (.invokevirtual 227, 3) := by decide +kernel
theorem dX2_coveredBits_6 : decode cX2_coveredBits 6 = .ok (.bipush 16, 2) := by decide +kernel
theorem dX2_coveredBits_8 : decode cX2_coveredBits 8 = .ok (.idiv, 1) := by decide +kernel
theorem dX2_coveredBits_9 : decode cX2_coveredBits 9 = .ok (.if_icmp .lt 23, 3) := by decide +kernel
theorem dX2_coveredBits_12 : decode cX2_coveredBits 12 = .ok (.iload_n 2, 1) := by decide +kernel
theorem dX2_coveredBits_13 : decode cX2_coveredBits 13 = .ok (.aload_n 0, 1) := by decide +kernel
theorem dX2_coveredBits_14 : decode cX2_coveredBits 14 = .ok (.iload_n 1, 1) := by decide +kernel
theorem dX2_coveredBits_15 : decode cX2_coveredBits 15 = .ok (.invokevirtual 230, 3) := by decide +kernel
theorem dX2_coveredBits_18 : decode cX2_coveredBits 18 = .ok (.bipush 16, 2) := by decide +kernel
theorem dX2_coveredBits_20 : decode cX2_coveredBits 20 = .ok (.idiv, 1) := by decide +kernel
theorem dX2_coveredBits_21 : decode cX2_coveredBits 21 = .ok (.if_icmp .gt 11, 3) := by decide +kernel
theorem dX2_coveredBits_24 : decode cX2_coveredBits 24 = .ok (.aload_n 0, 1) := by decide +kernel
theorem dX2_coveredBits_25 : decode cX2_coveredBits 25 = .ok (.iload_n 1, 1) := by decide +kernel
theorem dX2_coveredBits_26 : decode cX2_coveredBits 26 = .ok (.invokevirtual 135, 3) := by decide +kernel
theorem dX2_coveredBits_29 : decode cX2_coveredBits 29 = .ok (.ifCond .ne 5, 3) := by decide +kernel
theorem dX2_coveredBits_32 : decode cX2_coveredBits 32 = .ok (.iconst 0, 1) := by decide +kernel
theorem dX2_coveredBits_33 : decode cX2_coveredBits 33 = .ok (.ireturn, 1) := by decide +kernel
theorem dX2_coveredBits_34 : decode cX2_coveredBits 34 = .ok (.iconst 0, 1) := by decide +kernel
theorem dX2_coveredBits_35 : decode cX2_coveredBits 35 = .ok (.istore_n 3, 1) := by decide +kernel
theorem dX2_coveredBits_36 : decode cX2_coveredBits 36 = .ok (.aload_n 0, 1) := by decide +kernel
theorem dX2_coveredBits_37 : decode cX2_coveredBits 37 = .ok (.iload_n 1, 1) := by decide +kernel
theorem dX2_coveredBits_38 : decode cX2_coveredBits 38 = .ok (.invokevirtual 233, 3) := by decide +kernel
theorem dX2_coveredBits_41 : decode cX2_coveredBits 41 = .ok (.bipush 16, 2) := by decide +kernel
theorem dX2_coveredBits_43 : decode cX2_coveredBits 43 = .ok (.idiv, 1) := by decide +kernel
theorem dX2_coveredBits_44 : decode cX2_coveredBits 44 = .ok (.istore 4, 2) := by decide +kernel
theorem dX2_coveredBits_46 : decode cX2_coveredBits 46 = .ok (.aload_n 0, 1) := by decide +kernel
theorem dX2_coveredBits_47 : decode cX2_coveredBits 47 = .ok (.iload_n 1, 1) := by decide +kernel
theorem dX2_coveredBits_48 : decode cX2_coveredBits 48 = .ok (.invokevirtual 236, 3) := by decide +kernel
theorem dX2_coveredBits_51 : decode cX2_coveredBits 51 = .ok (.bipush 16, 2) := by decide +kernel
theorem dX2_coveredBits_53 : decode cX2_coveredBits 53 = .ok (.idiv, 1) := by decide +kernel
theorem dX2_coveredBits_54 : decode cX2_coveredBits 54 = .ok (.istore 5, 2) := by decide +kernel
theorem dX2_coveredBits_56 : decode cX2_coveredBits 56 = .ok (.iload 5, 2) := by decide +kernel
theorem dX2_coveredBits_58 : decode cX2_coveredBits 58 = .ok (.iload 4, 2) := by decide +kernel
theorem dX2_coveredBits_60 : decode cX2_coveredBits 60 = .ok (.if_icmp .gt 33, 3) := by decide +kernel
theorem dX2_coveredBits_63 : decode cX2_coveredBits 63 = .ok (.aload_n 0, 1) := by decide +kernel
theorem dX2_coveredBits_64 : decode cX2_coveredBits 64 = .ok (.iload_n 1, 1) := by decide +kernel
theorem dX2_coveredBits_65 : decode cX2_coveredBits 65 = .ok (.iload 5, 2) := by decide +kernel
theorem dX2_coveredBits_67 : decode cX2_coveredBits 67 = .ok (.invokestatic 201, 3) := by decide +kernel
theorem dX2_coveredBits_70 : decode cX2_coveredBits 70 = .ok (.iload_n 2, 1) := by decide +kernel
theorem dX2_coveredBits_71 : decode cX2_coveredBits 71 = .ok (.invokestatic 201, 3) := by decide +kernel
theorem dX2_coveredBits_74 : decode cX2_coveredBits 74 = .ok (.invokevirtual 204, 3) := by decide +kernel
theorem dX2_coveredBits_77 : decode cX2_coveredBits 77 = .ok (.ifCond .eq 10, 3) := by decide +kernel
theorem dX2_coveredBits_80 : decode cX2_coveredBits 80 = .ok (.iload_n 3, 1) := by decide +kernel
theorem dX2_coveredBits_81 : decode cX2_coveredBits 81 = .ok (.iconst 1, 1) := by decide +kernel
theorem dX2_coveredBits_82 : decode cX2_coveredBits 82 = .ok (.iload 5, 2) := by decide +kernel
theorem dX2_coveredBits_84 : decode cX2_coveredBits 84 = .ok (.ishl, 1) := by decide +kernel
theorem dX2_coveredBits_85 : decode cX2_coveredBits 85 = .ok (.ior, 1) := by decide +kernel
theorem dX2_coveredBits_86 : decode cX2_coveredBits 86 = .ok (.istore_n 3, 1) := by decide +kernel
theorem dX2_coveredBits_87 : decode cX2_coveredBits 87 = .ok (.iinc 5 1, 3) := by decide +kernel
theorem dX2_coveredBits_90 : decode cX2_coveredBits 90 = .ok (.goto (-34), 3) := by decide +kernel
theorem dX2_coveredBits_93 : decode cX2_coveredBits 93 = .ok (.iload_n 3, 1) := by decide +kernel
theorem dX2_coveredBits_94 : decode cX2_coveredBits 94 = .ok (.ireturn, 1) := by decide +kernel
set_option maxRecDepth 20000 in
theorem ggX2_sumOfTurns_X1_thereCount : GoodIn wsX2_sumOfTurns wsX1_thereCount := goodIn_r _ [10, 11, 45, 46, 47, 48] (by decide +kernel) (by decide +kernel)
set_option maxRecDepth 20000 in
theorem gX2_sumOfTurns_X1_thereCount : GoodIn wsX2_sumOfTurns (wsV RX2 127 RX1 yX1_thereCount wsX1_thereCount) := goodIn_app (goodIn_of _ (by decide +kernel)) ggX2_sumOfTurns_X1_thereCount
set_option maxRecDepth 20000 in
theorem ggX2_sumOfTurns_X1_numberAt : GoodIn wsX2_sumOfTurns wsX1_numberAt := goodIn_r _ [15, 16, 45, 46, 47, 48] (by decide +kernel) (by decide +kernel)
set_option maxRecDepth 20000 in
theorem gX2_sumOfTurns_X1_numberAt : GoodIn wsX2_sumOfTurns (wsV RX2 131 RX1 yX1_numberAt wsX1_numberAt) := goodIn_app (goodIn_of _ (by decide +kernel)) ggX2_sumOfTurns_X1_numberAt
set_option maxRecDepth 20000 in
theorem ggX2_sumOfTurns_X2_turnOf : GoodIn wsX2_sumOfTurns wsX2_turnOf := goodIn_r _ [21, 22, 1, 23, 24, 25, 9, 26, 27, 28, 29, 30, 31, 32, 33, 34, 35, 36, 37, 38, 39, 40, 41, 42, 43, 44, 45, 46, 47, 48, 49, 50, 51] (by decide +kernel) (by decide +kernel)
set_option maxRecDepth 20000 in
theorem gX2_sumOfTurns_X2_turnOf : GoodIn wsX2_sumOfTurns (wsV RX2 192 RX2 yX2_turnOf wsX2_turnOf) := goodIn_app (goodIn_of _ (by decide +kernel)) ggX2_sumOfTurns_X2_turnOf
theorem dX2_sumOfTurns_0 : decode cX2_sumOfTurns 0 = .ok (.lconst 0, 1) := by decide +kernel
theorem dX2_sumOfTurns_1 : decode cX2_sumOfTurns 1 = .ok (.lstore_n 1, 1) := by decide +kernel
theorem dX2_sumOfTurns_2 : decode cX2_sumOfTurns 2 = .ok (.iconst 0, 1) := by decide +kernel
theorem dX2_sumOfTurns_3 : decode cX2_sumOfTurns 3 = .ok (.istore_n 3, 1) := by decide +kernel
theorem dX2_sumOfTurns_4 : decode cX2_sumOfTurns 4 = .ok (.iload_n 3, 1) := by decide +kernel
theorem dX2_sumOfTurns_5 : decode cX2_sumOfTurns 5 = .ok (.aload_n 0, 1) := by decide +kernel
theorem dX2_sumOfTurns_6 : decode cX2_sumOfTurns 6 = .ok (.getfield 19, 3) := by decide +kernel
theorem dX2_sumOfTurns_9 : decode cX2_sumOfTurns 9 = .ok (.invokevirtual 127, 3) := by decide +kernel
theorem dX2_sumOfTurns_12 : decode cX2_sumOfTurns 12 = .ok (.if_icmp .ge 29, 3) := by decide +kernel
theorem dX2_sumOfTurns_15 : decode cX2_sumOfTurns 15 = .ok (.lload_n 1, 1) := by decide +kernel
theorem dX2_sumOfTurns_16 : decode cX2_sumOfTurns 16 = .ok (.iconst 0, 1) := by decide +kernel
theorem dX2_sumOfTurns_17 : decode cX2_sumOfTurns 17 = .ok (.aload_n 0, 1) := by decide +kernel
theorem dX2_sumOfTurns_18 : decode cX2_sumOfTurns 18 = .ok (.aload_n 0, 1) := by decide +kernel
theorem dX2_sumOfTurns_19 : decode cX2_sumOfTurns 19 = .ok (.getfield 19, 3) := by decide +kernel
theorem dX2_sumOfTurns_22 : decode cX2_sumOfTurns 22 = .ok (.iload_n 3, 1) := by decide +kernel
theorem dX2_sumOfTurns_23 : decode cX2_sumOfTurns 23 = .ok (.invokevirtual 131, 3) := by decide +kernel
theorem dX2_sumOfTurns_26 : decode cX2_sumOfTurns 26 = .ok (.invokevirtual 192, 3) := by decide +kernel
theorem dX2_sumOfTurns_29 : decode cX2_sumOfTurns 29 = .ok (.invokestatic 239, 3) := by decide +kernel
theorem dX2_sumOfTurns_32 : decode cX2_sumOfTurns 32 = .ok (.i2l, 1) := by decide +kernel
theorem dX2_sumOfTurns_33 : decode cX2_sumOfTurns 33 = .ok (.ladd, 1) := by decide +kernel
theorem dX2_sumOfTurns_34 : decode cX2_sumOfTurns 34 = .ok (.lstore_n 1, 1) := by decide +kernel
theorem dX2_sumOfTurns_35 : decode cX2_sumOfTurns 35 = .ok (.iinc 3 1, 3) := by decide +kernel
theorem dX2_sumOfTurns_38 : decode cX2_sumOfTurns 38 = .ok (.goto (-34), 3) := by decide +kernel
theorem dX2_sumOfTurns_41 : decode cX2_sumOfTurns 41 = .ok (.lload_n 1, 1) := by decide +kernel
theorem dX2_sumOfTurns_42 : decode cX2_sumOfTurns 42 = .ok (.lreturn, 1) := by decide +kernel
set_option maxRecDepth 20000 in
theorem ggX2_leftmost_X2_cornerX : GoodIn wsX2_leftmost wsX2_cornerX := goodIn_r _ [9, 10, 11, 12, 13, 14, 15, 16, 17, 18, 19, 20, 21, 22, 23, 24, 25, 26, 27, 28, 29, 30, 31, 32, 33, 34, 35, 36] (by decide +kernel) (by decide +kernel)
set_option maxRecDepth 20000 in
theorem gX2_leftmost_X2_cornerX : GoodIn wsX2_leftmost (wsV RX2 244 RX2 yX2_cornerX wsX2_cornerX) := goodIn_app (goodIn_of _ (by decide +kernel)) ggX2_leftmost_X2_cornerX
theorem dX2_leftmost_0 : decode cX2_leftmost 0 = .ok (.aload_n 0, 1) := by decide +kernel
theorem dX2_leftmost_1 : decode cX2_leftmost 1 = .ok (.iload_n 1, 1) := by decide +kernel
theorem dX2_leftmost_2 : decode cX2_leftmost 2 = .ok (.iconst 0, 1) := by decide +kernel
theorem dX2_leftmost_3 : decode cX2_leftmost 3 = .ok (.invokevirtual 244, 3) := by decide +kernel
theorem dX2_leftmost_6 : decode cX2_leftmost 6 = .ok (.aload_n 0, 1) := by decide +kernel
theorem dX2_leftmost_7 : decode cX2_leftmost 7 = .ok (.iload_n 1, 1) := by decide +kernel
theorem dX2_leftmost_8 : decode cX2_leftmost 8 = .ok (.iconst 1, 1) := by decide +kernel
theorem dX2_leftmost_9 : decode cX2_leftmost 9 = .ok (.invokevirtual 244, 3) := by decide +kernel
theorem dX2_leftmost_12 : decode cX2_leftmost 12 = .ok (.aload_n 0, 1) := by decide +kernel
theorem dX2_leftmost_13 : decode cX2_leftmost 13 = .ok (.iload_n 1, 1) := by decide +kernel
theorem dX2_leftmost_14 : decode cX2_leftmost 14 = .ok (.iconst 2, 1) := by decide +kernel
theorem dX2_leftmost_15 : decode cX2_leftmost 15 = .ok (.invokevirtual 244, 3) := by decide +kernel
theorem dX2_leftmost_18 : decode cX2_leftmost 18 = .ok (.invokestatic 247, 3) := by decide +kernel
theorem dX2_leftmost_21 : decode cX2_leftmost 21 = .ok (.invokestatic 247, 3) := by decide +kernel
theorem dX2_leftmost_24 : decode cX2_leftmost 24 = .ok (.ireturn, 1) := by decide +kernel
set_option maxRecDepth 20000 in
theorem ggX2_rightmost_X2_cornerX : GoodIn wsX2_rightmost wsX2_cornerX := goodIn_r _ [9, 10, 11, 12, 13, 14, 15, 16, 17, 18, 19, 20, 21, 22, 23, 24, 25, 26, 27, 28, 29, 30, 31, 32, 33, 34, 35, 36] (by decide +kernel) (by decide +kernel)
set_option maxRecDepth 20000 in
theorem gX2_rightmost_X2_cornerX : GoodIn wsX2_rightmost (wsV RX2 244 RX2 yX2_cornerX wsX2_cornerX) := goodIn_app (goodIn_of _ (by decide +kernel)) ggX2_rightmost_X2_cornerX
theorem dX2_rightmost_0 : decode cX2_rightmost 0 = .ok (.aload_n 0, 1) := by decide +kernel
theorem dX2_rightmost_1 : decode cX2_rightmost 1 = .ok (.iload_n 1, 1) := by decide +kernel
theorem dX2_rightmost_2 : decode cX2_rightmost 2 = .ok (.iconst 0, 1) := by decide +kernel
theorem dX2_rightmost_3 : decode cX2_rightmost 3 = .ok (.invokevirtual 244, 3) := by decide +kernel
theorem dX2_rightmost_6 : decode cX2_rightmost 6 = .ok (.aload_n 0, 1) := by decide +kernel
theorem dX2_rightmost_7 : decode cX2_rightmost 7 = .ok (.iload_n 1, 1) := by decide +kernel
theorem dX2_rightmost_8 : decode cX2_rightmost 8 = .ok (.iconst 1, 1) := by decide +kernel
theorem dX2_rightmost_9 : decode cX2_rightmost 9 = .ok (.invokevirtual 244, 3) := by decide +kernel
theorem dX2_rightmost_12 : decode cX2_rightmost 12 = .ok (.aload_n 0, 1) := by decide +kernel
theorem dX2_rightmost_13 : decode cX2_rightmost 13 = .ok (.iload_n 1, 1) := by decide +kernel
theorem dX2_rightmost_14 : decode cX2_rightmost 14 = .ok (.iconst 2, 1) := by decide +kernel
theorem dX2_rightmost_15 : decode cX2_rightmost 15 = .ok (.invokevirtual 244, 3) := by decide +kernel
theorem dX2_rightmost_18 : decode cX2_rightmost 18 = .ok (.invokestatic 239, 3) := by decide +kernel
theorem dX2_rightmost_21 : decode cX2_rightmost 21 = .ok (.invokestatic 239, 3) := by decide +kernel
theorem dX2_rightmost_24 : decode cX2_rightmost 24 = .ok (.ireturn, 1) := by decide +kernel
set_option maxRecDepth 20000 in
theorem ggX2_lowest_X2_cornerY : GoodIn wsX2_lowest wsX2_cornerY := goodIn_r _ [9, 10, 11, 12, 13, 14, 15, 16, 17, 18, 19, 20, 21, 22, 23, 24, 25, 26, 27, 28, 29, 30, 31, 32, 33, 34, 35, 36] (by decide +kernel) (by decide +kernel)
set_option maxRecDepth 20000 in
theorem gX2_lowest_X2_cornerY : GoodIn wsX2_lowest (wsV RX2 250 RX2 yX2_cornerY wsX2_cornerY) := goodIn_app (goodIn_of _ (by decide +kernel)) ggX2_lowest_X2_cornerY
theorem dX2_lowest_0 : decode cX2_lowest 0 = .ok (.aload_n 0, 1) := by decide +kernel
theorem dX2_lowest_1 : decode cX2_lowest 1 = .ok (.iload_n 1, 1) := by decide +kernel
theorem dX2_lowest_2 : decode cX2_lowest 2 = .ok (.iconst 0, 1) := by decide +kernel
theorem dX2_lowest_3 : decode cX2_lowest 3 = .ok (.invokevirtual 250, 3) := by decide +kernel
theorem dX2_lowest_6 : decode cX2_lowest 6 = .ok (.aload_n 0, 1) := by decide +kernel
theorem dX2_lowest_7 : decode cX2_lowest 7 = .ok (.iload_n 1, 1) := by decide +kernel
theorem dX2_lowest_8 : decode cX2_lowest 8 = .ok (.iconst 1, 1) := by decide +kernel
theorem dX2_lowest_9 : decode cX2_lowest 9 = .ok (.invokevirtual 250, 3) := by decide +kernel
theorem dX2_lowest_12 : decode cX2_lowest 12 = .ok (.aload_n 0, 1) := by decide +kernel
theorem dX2_lowest_13 : decode cX2_lowest 13 = .ok (.iload_n 1, 1) := by decide +kernel
theorem dX2_lowest_14 : decode cX2_lowest 14 = .ok (.iconst 2, 1) := by decide +kernel
theorem dX2_lowest_15 : decode cX2_lowest 15 = .ok (.invokevirtual 250, 3) := by decide +kernel
theorem dX2_lowest_18 : decode cX2_lowest 18 = .ok (.invokestatic 247, 3) := by decide +kernel
theorem dX2_lowest_21 : decode cX2_lowest 21 = .ok (.invokestatic 247, 3) := by decide +kernel
theorem dX2_lowest_24 : decode cX2_lowest 24 = .ok (.ireturn, 1) := by decide +kernel
set_option maxRecDepth 20000 in
theorem ggX2_highest_X2_cornerY : GoodIn wsX2_highest wsX2_cornerY := goodIn_r _ [9, 10, 11, 12, 13, 14, 15, 16, 17, 18, 19, 20, 21, 22, 23, 24, 25, 26, 27, 28, 29, 30, 31, 32, 33, 34, 35, 36] (by decide +kernel) (by decide +kernel)
set_option maxRecDepth 20000 in
theorem gX2_highest_X2_cornerY : GoodIn wsX2_highest (wsV RX2 250 RX2 yX2_cornerY wsX2_cornerY) := goodIn_app (goodIn_of _ (by decide +kernel)) ggX2_highest_X2_cornerY
theorem dX2_highest_0 : decode cX2_highest 0 = .ok (.aload_n 0, 1) := by decide +kernel
theorem dX2_highest_1 : decode cX2_highest 1 = .ok (.iload_n 1, 1) := by decide +kernel
theorem dX2_highest_2 : decode cX2_highest 2 = .ok (.iconst 0, 1) := by decide +kernel
theorem dX2_highest_3 : decode cX2_highest 3 = .ok (.invokevirtual 250, 3) := by decide +kernel
theorem dX2_highest_6 : decode cX2_highest 6 = .ok (.aload_n 0, 1) := by decide +kernel
theorem dX2_highest_7 : decode cX2_highest 7 = .ok (.iload_n 1, 1) := by decide +kernel
theorem dX2_highest_8 : decode cX2_highest 8 = .ok (.iconst 1, 1) := by decide +kernel
theorem dX2_highest_9 : decode cX2_highest 9 = .ok (.invokevirtual 250, 3) := by decide +kernel
theorem dX2_highest_12 : decode cX2_highest 12 = .ok (.aload_n 0, 1) := by decide +kernel
theorem dX2_highest_13 : decode cX2_highest 13 = .ok (.iload_n 1, 1) := by decide +kernel
theorem dX2_highest_14 : decode cX2_highest 14 = .ok (.iconst 2, 1) := by decide +kernel
theorem dX2_highest_15 : decode cX2_highest 15 = .ok (.invokevirtual 250, 3) := by decide +kernel
theorem dX2_highest_18 : decode cX2_highest 18 = .ok (.invokestatic 239, 3) := by decide +kernel
theorem dX2_highest_21 : decode cX2_highest 21 = .ok (.invokestatic 239, 3) := by decide +kernel
theorem dX2_highest_24 : decode cX2_highest 24 = .ok (.ireturn, 1) := by decide +kernel
set_option maxRecDepth 20000 in
theorem ggX2_cornerX_X1_cornerOf : GoodIn wsX2_cornerX wsX1_cornerOf := goodIn_r _ [7, 8, 21, 22, 23, 24] (by decide +kernel) (by decide +kernel)
set_option maxRecDepth 20000 in
theorem gX2_cornerX_X1_cornerOf : GoodIn wsX2_cornerX (wsV RX2 107 RX1 yX1_cornerOf wsX1_cornerOf) := goodIn_app (goodIn_of _ (by decide +kernel)) ggX2_cornerX_X1_cornerOf
set_option maxRecDepth 20000 in
theorem ggX2_cornerX_X0_x : GoodIn wsX2_cornerX wsX0_x := goodIn_r _ [13, 14, 25, 26, 27] (by decide +kernel) (by decide +kernel)
set_option maxRecDepth 20000 in
theorem gX2_cornerX_X0_x : GoodIn wsX2_cornerX (wsV RX2 213 RX0 yX0_x wsX0_x) := goodIn_app (goodIn_of _ (by decide +kernel)) ggX2_cornerX_X0_x
theorem dX2_cornerX_0 : decode cX2_cornerX 0 = .ok (.aload_n 0, 1) := by decide +kernel
theorem dX2_cornerX_1 : decode cX2_cornerX 1 = .ok (.getfield 10, 3) := by decide +kernel
theorem dX2_cornerX_4 : decode cX2_cornerX 4 = .ok (.aload_n 0, 1) := by decide +kernel
theorem dX2_cornerX_5 : decode cX2_cornerX 5 = .ok (.getfield 19, 3) := by decide +kernel
theorem dX2_cornerX_8 : decode cX2_cornerX 8 = .ok (.iload_n 1, 1) := by decide +kernel
theorem dX2_cornerX_9 : decode cX2_cornerX 9 = .ok (.iload_n 2, 1) := by decide +kernel
theorem dX2_cornerX_10 : decode cX2_cornerX 10 = .ok (.invokevirtual 107, 3) := by decide +kernel
theorem dX2_cornerX_13 : decode cX2_cornerX 13 = .ok (.invokevirtual 213, 3) := by decide +kernel
theorem dX2_cornerX_16 : decode cX2_cornerX 16 = .ok (.ireturn, 1) := by decide +kernel
set_option maxRecDepth 20000 in
theorem ggX2_cornerY_X1_cornerOf : GoodIn wsX2_cornerY wsX1_cornerOf := goodIn_r _ [7, 8, 21, 22, 23, 24] (by decide +kernel) (by decide +kernel)
set_option maxRecDepth 20000 in
theorem gX2_cornerY_X1_cornerOf : GoodIn wsX2_cornerY (wsV RX2 107 RX1 yX1_cornerOf wsX1_cornerOf) := goodIn_app (goodIn_of _ (by decide +kernel)) ggX2_cornerY_X1_cornerOf
set_option maxRecDepth 20000 in
theorem ggX2_cornerY_X0_y : GoodIn wsX2_cornerY wsX0_y := goodIn_r _ [13, 14, 25, 26, 27] (by decide +kernel) (by decide +kernel)
set_option maxRecDepth 20000 in
theorem gX2_cornerY_X0_y : GoodIn wsX2_cornerY (wsV RX2 210 RX0 yX0_y wsX0_y) := goodIn_app (goodIn_of _ (by decide +kernel)) ggX2_cornerY_X0_y
theorem dX2_cornerY_0 : decode cX2_cornerY 0 = .ok (.aload_n 0, 1) := by decide +kernel
theorem dX2_cornerY_1 : decode cX2_cornerY 1 = .ok (.getfield 10, 3) := by decide +kernel
theorem dX2_cornerY_4 : decode cX2_cornerY 4 = .ok (.aload_n 0, 1) := by decide +kernel
theorem dX2_cornerY_5 : decode cX2_cornerY 5 = .ok (.getfield 19, 3) := by decide +kernel
theorem dX2_cornerY_8 : decode cX2_cornerY 8 = .ok (.iload_n 1, 1) := by decide +kernel
theorem dX2_cornerY_9 : decode cX2_cornerY 9 = .ok (.iload_n 2, 1) := by decide +kernel
theorem dX2_cornerY_10 : decode cX2_cornerY 10 = .ok (.invokevirtual 107, 3) := by decide +kernel
theorem dX2_cornerY_13 : decode cX2_cornerY 13 = .ok (.invokevirtual 210, 3) := by decide +kernel
theorem dX2_cornerY_16 : decode cX2_cornerY 16 = .ok (.ireturn, 1) := by decide +kernel
theorem dX2_rememberCulprits_0 : decode cX2_rememberCulprits 0 = .ok (.aload_n 0, 1) := by decide +kernel
theorem dX2_rememberCulprits_1 : decode cX2_rememberCulprits 1 = .ok (.iload_n 1, 1) := by decide +kernel
theorem dX2_rememberCulprits_2 : decode cX2_rememberCulprits 2 = .ok (.putfield 31, 3) := by decide +kernel
theorem dX2_rememberCulprits_5 : decode cX2_rememberCulprits 5 = .ok (.aload_n 0, 1) := by decide +kernel
theorem dX2_rememberCulprits_6 : decode cX2_rememberCulprits 6 = .ok (.iload_n 2, 1) := by decide +kernel
theorem dX2_rememberCulprits_7 : decode cX2_rememberCulprits 7 = .ok (.putfield 35, 3) := by decide +kernel
theorem dX2_rememberCulprits_10 : decode cX2_rememberCulprits 10 = .ok (.return_, 1) := by decide +kernel
set_option maxRecDepth 20000 in
theorem ggX2_firstUntidyBefore_X1_numberAt : GoodIn wsX2_firstUntidyBefore wsX1_numberAt := goodIn_r _ [6, 7, 111, 112, 113, 114] (by decide +kernel) (by decide +kernel)
set_option maxRecDepth 20000 in
theorem gX2_firstUntidyBefore_X1_numberAt : GoodIn wsX2_firstUntidyBefore (wsV RX2 131 RX1 yX1_numberAt wsX1_numberAt) := goodIn_app (goodIn_of _ (by decide +kernel)) ggX2_firstUntidyBefore_X1_numberAt
set_option maxRecDepth 20000 in
theorem ggX2_firstUntidyBefore_X2_areTidy : GoodIn wsX2_firstUntidyBefore wsX2_areTidy := goodIn_r _ [12, 13, 14, 15, 11, 16, 17, 18, 19, 20, 21, 22, 23, 24, 25, 26, 27, 28, 29, 1, 30, 31, 32, 5, 33, 34, 35, 36, 37, 38, 39, 40, 41, 42, 43, 44, 45, 46, 47, 48, 49, 50, 51, 52, 53, 54, 55, 56, 57, 58, 59, 60, 61, 62, 63, 64, 65, 66, 67, 68, 69, 70, 71, 72, 73, 74, 75, 76, 77, 78, 79, 80, 81, 82, 83, 84, 85, 86, 87, 88, 89, 90, 91, 92, 93, 94, 95, 96, 97, 98, 99, 100, 101, 102, 103, 104, 105, 106, 107, 108, 109, 110, 111, 112, 113, 114, 115, 116, 117] (by decide +kernel) (by decide +kernel)
set_option maxRecDepth 20000 in
theorem gX2_firstUntidyBefore_X2_areTidy : GoodIn wsX2_firstUntidyBefore (wsV RX2 253 RX2 yX2_areTidy wsX2_areTidy) := goodIn_app (goodIn_of _ (by decide +kernel)) ggX2_firstUntidyBefore_X2_areTidy
theorem dX2_firstUntidyBefore_0 : decode cX2_firstUntidyBefore 0 = .ok (.aload_n 0, 1) := by decide +kernel
theorem dX2_firstUntidyBefore_1 : decode cX2_firstUntidyBefore 1 = .ok (.getfield 19, 3) := by decide +kernel
theorem dX2_firstUntidyBefore_4 : decode cX2_firstUntidyBefore 4 = .ok (.iload_n 1, 1) := by decide +kernel
theorem dX2_firstUntidyBefore_5 : decode cX2_firstUntidyBefore 5 = .ok (.invokevirtual 131, 3) := by decide +kernel
theorem dX2_firstUntidyBefore_8 : decode cX2_firstUntidyBefore 8 = .ok (.istore_n 2, 1) := by decide +kernel
theorem dX2_firstUntidyBefore_9 : decode cX2_firstUntidyBefore 9 = .ok (.iconst 0, 1) := by decide +kernel
theorem dX2_firstUntidyBefore_10 : decode cX2_firstUntidyBefore 10 = .ok (.istore_n 3, 1) := by decide +kernel
theorem dX2_firstUntidyBefore_11 : decode cX2_firstUntidyBefore 11 = .ok (.iload_n 3, 1) := by decide +kernel
theorem dX2_firstUntidyBefore_12 : decode cX2_firstUntidyBefore 12 = .ok (.iload_n 1, 1) := by decide +kernel
theorem dX2_firstUntidyBefore_13 : decode cX2_firstUntidyBefore 13 = .ok (.if_icmp .ge 32, 3) := by decide +kernel
theorem dX2_firstUntidyBefore_16 : decode cX2_firstUntidyBefore 16 = .ok (.aload_n 0, 1) := by decide +kernel
theorem dX2_firstUntidyBefore_17 : decode cX2_firstUntidyBefore 17 = .ok (.getfield 19, 3) := by decide +kernel
theorem dX2_firstUntidyBefore_20 : decode cX2_firstUntidyBefore 20 = .ok (.iload_n 3, 1) := by decide +kernel
theorem dX2_firstUntidyBefore_21 : decode cX2_firstUntidyBefore 21 = .ok (.invokevirtual 131, 3) := by decide +kernel
theorem dX2_firstUntidyBefore_24 : decode cX2_firstUntidyBefore 24 = .ok (.istore 4, 2) := by decide +kernel
theorem dX2_firstUntidyBefore_26 : decode cX2_firstUntidyBefore 26 = .ok (.aload_n 0, 1) := by decide +kernel
theorem dX2_firstUntidyBefore_27 : decode cX2_firstUntidyBefore 27 = .ok (.iload_n 2, 1) := by decide +kernel
theorem dX2_firstUntidyBefore_28 : decode cX2_firstUntidyBefore 28 = .ok (.iload 4, 2) := by decide +kernel
theorem dX2_firstUntidyBefore_30 : decode cX2_firstUntidyBefore 30 = .ok (.invokevirtual 253, 3) := by decide +kernel
theorem dX2_firstUntidyBefore_33 : decode cX2_firstUntidyBefore 33 = .ok (.ifCond .ne 6, 3) := by decide +kernel
theorem dX2_firstUntidyBefore_36 : decode cX2_firstUntidyBefore 36 = .ok (.iload 4, 2) := by decide +kernel
theorem dX2_firstUntidyBefore_38 : decode cX2_firstUntidyBefore 38 = .ok (.ireturn, 1) := by decide +kernel
theorem dX2_firstUntidyBefore_39 : decode cX2_firstUntidyBefore 39 = .ok (.iinc 3 1, 3) := by decide +kernel
theorem dX2_firstUntidyBefore_42 : decode cX2_firstUntidyBefore 42 = .ok (.goto (-31), 3) := by decide +kernel
theorem dX2_firstUntidyBefore_45 : decode cX2_firstUntidyBefore 45 = .ok (.iconst (-1), 1) := by decide +kernel
theorem dX2_firstUntidyBefore_46 : decode cX2_firstUntidyBefore 46 = .ok (.ireturn, 1) := by decide +kernel
set_option maxRecDepth 20000 in
theorem ggX2_areTidy_X2_areFarApart : GoodIn wsX2_areTidy wsX2_areFarApart := goodIn_r _ [5, 6, 7, 8, 4, 9, 10, 11, 12, 13, 14, 15, 16, 17, 18, 19, 20, 21, 22, 23, 24, 25, 26, 27, 28, 29, 30, 31, 32, 33, 34, 35, 36, 37, 38, 39, 40, 41, 42, 43, 44, 45, 46, 47, 48, 49, 50, 51, 52, 53, 54, 55, 96, 97, 98, 99, 100, 101, 102, 103, 104, 105, 106, 107, 108] (by decide +kernel) (by decide +kernel)
set_option maxRecDepth 20000 in
theorem gX2_areTidy_X2_areFarApart : GoodIn wsX2_areTidy (wsV RX2 256 RX2 yX2_areFarApart wsX2_areFarApart) := goodIn_app (goodIn_of _ (by decide +kernel)) ggX2_areTidy_X2_areFarApart
set_option maxRecDepth 20000 in
theorem ggX2_areTidy_X2_haveSameCorners : GoodIn wsX2_areTidy wsX2_haveSameCorners := goodIn_r _ [59, 19, 20, 21, 22, 23, 24, 25, 60, 61, 62, 63, 96, 97, 98, 99, 100, 101, 102, 103, 104, 105] (by decide +kernel) (by decide +kernel)
set_option maxRecDepth 20000 in
theorem gX2_areTidy_X2_haveSameCorners : GoodIn wsX2_areTidy (wsV RX2 259 RX2 yX2_haveSameCorners wsX2_haveSameCorners) := goodIn_app (goodIn_of _ (by decide +kernel)) ggX2_areTidy_X2_haveSameCorners
set_option maxRecDepth 20000 in
theorem ggX2_areTidy_X2_reachesInto : GoodIn wsX2_areTidy wsX2_reachesInto := goodIn_r _ [67, 19, 18, 20, 21, 22, 23, 24, 25, 60, 61, 62, 63, 26, 27, 28, 29, 30, 31, 47, 48, 49, 50, 51, 68, 69, 70, 4, 71, 72, 73, 74, 75, 76, 77, 78, 79, 96, 97, 98, 99, 100, 101, 102, 103, 104, 105, 106, 107, 108] (by decide +kernel) (by decide +kernel)
set_option maxRecDepth 20000 in
theorem gX2_areTidy_X2_reachesInto : GoodIn wsX2_areTidy (wsV RX2 262 RX2 yX2_reachesInto wsX2_reachesInto) := goodIn_app (goodIn_of _ (by decide +kernel)) ggX2_areTidy_X2_reachesInto
set_option maxRecDepth 20000 in
theorem ggX2_areTidy_X2_crossesAnEdgeOf : GoodIn wsX2_areTidy wsX2_crossesAnEdgeOf := goodIn_r _ [83, 18, 19, 20, 21, 22, 23, 24, 25, 84, 85, 86, 29, 87, 88, 89, 90, 91, 31, 51, 92, 77, 78, 79, 93, 94, 95, 96, 97, 98, 99, 100, 101, 102, 103, 104, 105, 106, 107, 108] (by decide +kernel) (by decide +kernel)
set_option maxRecDepth 20000 in
theorem gX2_areTidy_X2_crossesAnEdgeOf : GoodIn wsX2_areTidy (wsV RX2 265 RX2 yX2_crossesAnEdgeOf wsX2_crossesAnEdgeOf) := goodIn_app (goodIn_of _ (by decide +kernel)) ggX2_areTidy_X2_crossesAnEdgeOf
theorem dX2_areTidy_0 : decode cX2_areTidy 0 = .ok (.aload_n 0, 1) := by decide +kernel
theorem dX2_areTidy_1 : decode cX2_areTidy 1 = .ok (.iload_n 1, 1) := by decide +kernel
theorem dX2_areTidy_2 : decode cX2_areTidy 2 = .ok (.iload_n 2, 1) := by decide +kernel
theorem dX2_areTidy_3 : decode cX2_areTidy 3 = .ok (.invokevirtual 256, 3) := by decide +kernel
theorem dX2_areTidy_6 : decode cX2_areTidy 6 = .ok (.ifCond .eq 5, 3) := by decide +kernel
theorem dX2_areTidy_9 : decode cX2_areTidy 9 = .ok (.iconst 1, 1) := by decide +kernel
theorem dX2_areTidy_10 : decode cX2_areTidy 10 = .ok (.ireturn, 1) := by decide +kernel
theorem dX2_areTidy_11 : decode cX2_areTidy 11 = .ok (.aload_n 0, 1) := by decide +kernel
theorem dX2_areTidy_12 : decode cX2_areTidy 12 = .ok (.iload_n 1, 1) := by decide +kernel
theorem dX2_areTidy_13 : decode cX2_areTidy 13 = .ok (.iload_n 2, 1) := by decide +kernel
theorem dX2_areTidy_14 : decode cX2_areTidy 14 = .ok (.invokevirtual 259, 3) := by decide +kernel
theorem dX2_areTidy_17 : decode cX2_areTidy 17 = .ok (.ifCond .ne 34, 3) := by decide +kernel
theorem dX2_areTidy_20 : decode cX2_areTidy 20 = .ok (.aload_n 0, 1) := by decide +kernel
theorem dX2_areTidy_21 : decode cX2_areTidy 21 = .ok (.iload_n 1, 1) := by decide +kernel
theorem dX2_areTidy_22 : decode cX2_areTidy 22 = .ok (.iload_n 2, 1) := by decide +kernel
theorem dX2_areTidy_23 : decode cX2_areTidy 23 = .ok (.invokevirtual 262, 3) := by decide +kernel
theorem dX2_areTidy_26 : decode cX2_areTidy 26 = .ok (.ifCond .ne 25, 3) := by decide +kernel
theorem dX2_areTidy_29 : decode cX2_areTidy 29 = .ok (.aload_n 0, 1) := by decide +kernel
theorem dX2_areTidy_30 : decode cX2_areTidy 30 = .ok (.iload_n 2, 1) := by decide +kernel
theorem dX2_areTidy_31 : decode cX2_areTidy 31 = .ok (.iload_n 1, 1) := by decide +kernel
theorem dX2_areTidy_32 : decode cX2_areTidy 32 = .ok (.invokevirtual 262, 3) := by decide +kernel
theorem dX2_areTidy_35 : decode cX2_areTidy 35 = .ok (.ifCond .ne 16, 3) := by decide +kernel
theorem dX2_areTidy_38 : decode cX2_areTidy 38 = .ok (.aload_n 0, 1) := by decide +kernel
theorem dX2_areTidy_39 : decode cX2_areTidy 39 = .ok (.iload_n 1, 1) := by decide +kernel
theorem dX2_areTidy_40 : decode cX2_areTidy 40 = .ok (.iload_n 2, 1) := by decide +kernel
theorem dX2_areTidy_41 : decode cX2_areTidy 41 = .ok (.invokevirtual 265, 3) := by decide +kernel
theorem dX2_areTidy_44 : decode cX2_areTidy 44 = .ok (.ifCond .ne 7, 3) := by decide +kernel
theorem dX2_areTidy_47 : decode cX2_areTidy 47 = .ok (.iconst 1, 1) := by decide +kernel
theorem dX2_areTidy_48 : decode cX2_areTidy 48 = .ok (.goto 4, 3) := by decide +kernel
theorem dX2_areTidy_51 : decode cX2_areTidy 51 = .ok (.iconst 0, 1) := by decide +kernel
theorem dX2_areTidy_52 : decode cX2_areTidy 52 = .ok (.ireturn, 1) := by decide +kernel
set_option maxRecDepth 20000 in
theorem ggX2_areFarApart_X2_rightmost : GoodIn wsX2_areFarApart wsX2_rightmost := goodIn_r _ [5, 6, 7, 8, 9, 10, 11, 12, 4, 13, 14, 15, 16, 17, 18, 19, 20, 21, 22, 23, 24, 25, 26, 27, 52, 53, 54, 55, 56, 57, 58, 59, 60, 61, 62, 63, 64] (by decide +kernel) (by decide +kernel)
set_option maxRecDepth 20000 in
theorem gX2_areFarApart_X2_rightmost : GoodIn wsX2_areFarApart (wsV RX2 233 RX2 yX2_rightmost wsX2_rightmost) := goodIn_app (goodIn_of _ (by decide +kernel)) ggX2_areFarApart_X2_rightmost
set_option maxRecDepth 20000 in
theorem ggX2_areFarApart_X2_leftmost : GoodIn wsX2_areFarApart wsX2_leftmost := goodIn_r _ [31, 32, 33, 8, 34, 10, 11, 12, 4, 13, 14, 15, 16, 17, 18, 19, 20, 21, 22, 23, 24, 25, 26, 27, 52, 53, 54, 55, 56, 57, 58, 59, 60, 61, 62, 63, 64] (by decide +kernel) (by decide +kernel)
set_option maxRecDepth 20000 in
theorem gX2_areFarApart_X2_leftmost : GoodIn wsX2_areFarApart (wsV RX2 236 RX2 yX2_leftmost wsX2_leftmost) := goodIn_app (goodIn_of _ (by decide +kernel)) ggX2_areFarApart_X2_leftmost
set_option maxRecDepth 20000 in
theorem ggX2_areFarApart_X2_highest : GoodIn wsX2_areFarApart wsX2_highest := goodIn_r _ [38, 6, 7, 8, 9, 39, 40, 41, 4, 42, 14, 15, 16, 17, 18, 19, 20, 21, 43, 44, 45, 25, 46, 47, 52, 53, 54, 55, 56, 57, 58, 59, 60, 61, 62, 63, 64] (by decide +kernel) (by decide +kernel)
set_option maxRecDepth 20000 in
theorem gX2_areFarApart_X2_highest : GoodIn wsX2_areFarApart (wsV RX2 230 RX2 yX2_highest wsX2_highest) := goodIn_app (goodIn_of _ (by decide +kernel)) ggX2_areFarApart_X2_highest
set_option maxRecDepth 20000 in
theorem ggX2_areFarApart_X2_lowest : GoodIn wsX2_areFarApart wsX2_lowest := goodIn_r _ [51, 32, 33, 8, 34, 39, 40, 41, 4, 42, 14, 15, 16, 17, 18, 19, 20, 21, 43, 44, 45, 25, 46, 47, 52, 53, 54, 55, 56, 57, 58, 59, 60, 61, 62, 63, 64] (by decide +kernel) (by decide +kernel)
set_option maxRecDepth 20000 in
theorem gX2_areFarApart_X2_lowest : GoodIn wsX2_areFarApart (wsV RX2 227 RX2 yX2_lowest wsX2_lowest) := goodIn_app (goodIn_of _ (by decide +kernel)) ggX2_areFarApart_X2_lowest
theorem dX2_areFarApart_0 : decode cX2_areFarApart 0 = .ok (.aload_n 0, 1) := by decide +kernel
theorem dX2_areFarApart_1 : decode cX2_areFarApart 1 = .ok (.iload_n 1, 1) := by decide +kernel
theorem dX2_areFarApart_2 : decode cX2_areFarApart 2 = .ok (.invokevirtual 233, 3) := by decide +kernel
theorem dX2_areFarApart_5 : decode cX2_areFarApart 5 = .ok (.aload_n 0, 1) := by decide +kernel
theorem dX2_areFarApart_6 : decode cX2_areFarApart 6 = .ok (.iload_n 2, 1) := by decide +kernel
theorem dX2_areFarApart_7 : decode cX2_areFarApart 7 = .ok (.invokevirtual 236, 3) := by decide +kernel
theorem dX2_areFarApart_10 : decode cX2_areFarApart 10 = .ok (.if_icmp .lt 42, 3) := by decide +kernel
theorem dX2_areFarApart_13 : decode cX2_areFarApart 13 = .ok (.aload_n 0, 1) := by decide +kernel
theorem dX2_areFarApart_14 : decode cX2_areFarApart 14 = .ok (.iload_n 2, 1) := by decide +kernel
theorem dX2_areFarApart_15 : decode cX2_areFarApart 15 = .ok (.invokevirtual 233, 3) := by decide +kernel
theorem dX2_areFarApart_18 : decode cX2_areFarApart 18 = .ok (.aload_n 0, 1) := by decide +kernel
theorem dX2_areFarApart_19 : decode cX2_areFarApart 19 = .ok (.iload_n 1, 1) := by decide +kernel
theorem dX2_areFarApart_20 : decode cX2_areFarApart 20 = .ok (.invokevirtual 236, 3) := by decide +kernel
theorem dX2_areFarApart_23 : decode cX2_areFarApart 23 = .ok (.if_icmp .lt 29, 3) := by decide +kernel
theorem dX2_areFarApart_26 : decode cX2_areFarApart 26 = .ok (.aload_n 0, 1) := by decide +kernel
theorem dX2_areFarApart_27 : decode cX2_areFarApart 27 = .ok (.iload_n 1, 1) := by decide +kernel
theorem dX2_areFarApart_28 : decode cX2_areFarApart 28 = .ok (.invokevirtual 230, 3) := by decide +kernel
theorem dX2_areFarApart_31 : decode cX2_areFarApart 31 = .ok (.aload_n 0, 1) := by decide +kernel
theorem dX2_areFarApart_32 : decode cX2_areFarApart 32 = .ok (.iload_n 2, 1) := by decide +kernel
theorem dX2_areFarApart_33 : decode cX2_areFarApart 33 = .ok (.invokevirtual 227, 3) := by decide +kernel
theorem dX2_areFarApart_36 : decode cX2_areFarApart 36 = .ok (.if_icmp .lt 16, 3) := by decide +kernel
theorem dX2_areFarApart_39 : decode cX2_areFarApart 39 = .ok (.aload_n 0, 1) := by decide +kernel
theorem dX2_areFarApart_40 : decode cX2_areFarApart 40 = .ok (.iload_n 2, 1) := by decide +kernel
theorem dX2_areFarApart_41 : decode cX2_areFarApart 41 = .ok (.invokevirtual 230, 3) := by decide +kernel
theorem dX2_areFarApart_44 : decode cX2_areFarApart 44 = .ok (.aload_n 0, 1) := by decide +kernel
theorem dX2_areFarApart_45 : decode cX2_areFarApart 45 = .ok (.iload_n 1, 1) := by decide +kernel
theorem dX2_areFarApart_46 : decode cX2_areFarApart 46 = .ok (.invokevirtual 227, 3) := by decide +kernel
theorem dX2_areFarApart_49 : decode cX2_areFarApart 49 = .ok (.if_icmp .ge 7, 3) := by decide +kernel
theorem dX2_areFarApart_52 : decode cX2_areFarApart 52 = .ok (.iconst 1, 1) := by decide +kernel
theorem dX2_areFarApart_53 : decode cX2_areFarApart 53 = .ok (.goto 4, 3) := by decide +kernel
theorem dX2_areFarApart_56 : decode cX2_areFarApart 56 = .ok (.iconst 0, 1) := by decide +kernel
theorem dX2_areFarApart_57 : decode cX2_areFarApart 57 = .ok (.ireturn, 1) := by decide +kernel
set_option maxRecDepth 20000 in
theorem ggX2_haveSameCorners_X1_cornerOf : GoodIn wsX2_haveSameCorners wsX1_cornerOf := goodIn_r _ [6, 7, 18, 19, 20, 21] (by decide +kernel) (by decide +kernel)
set_option maxRecDepth 20000 in
theorem gX2_haveSameCorners_X1_cornerOf : GoodIn wsX2_haveSameCorners (wsV RX2 107 RX1 yX1_cornerOf wsX1_cornerOf) := goodIn_app (goodIn_of _ (by decide +kernel)) ggX2_haveSameCorners_X1_cornerOf
set_option maxRecDepth 20000 in
theorem ggX2_haveSameCorners_X1_hasCorner : GoodIn wsX2_haveSameCorners wsX1_hasCorner := goodIn_r _ [11, 7, 18, 19, 20, 21] (by decide +kernel) (by decide +kernel)
set_option maxRecDepth 20000 in
theorem gX2_haveSameCorners_X1_hasCorner : GoodIn wsX2_haveSameCorners (wsV RX2 268 RX1 yX1_hasCorner wsX1_hasCorner) := goodIn_app (goodIn_of _ (by decide +kernel)) ggX2_haveSameCorners_X1_hasCorner
theorem dX2_haveSameCorners_0 : decode cX2_haveSameCorners 0 = .ok (.iconst 0, 1) := by decide +kernel
theorem dX2_haveSameCorners_1 : decode cX2_haveSameCorners 1 = .ok (.istore_n 3, 1) := by decide +kernel
theorem dX2_haveSameCorners_2 : decode cX2_haveSameCorners 2 = .ok (.iload_n 3, 1) := by decide +kernel
theorem dX2_haveSameCorners_3 : decode cX2_haveSameCorners 3 = .ok (.iconst 3, 1) := by decide +kernel
theorem dX2_haveSameCorners_4 : decode cX2_haveSameCorners 4 = .ok (.if_icmp .ge 31, 3) := by decide +kernel
theorem dX2_haveSameCorners_7 : decode cX2_haveSameCorners 7 = .ok (.aload_n 0, 1) := by decide +kernel
theorem dX2_haveSameCorners_8 : decode cX2_haveSameCorners 8 = .ok (.getfield 19, 3) := by decide +kernel
theorem dX2_haveSameCorners_11 : decode cX2_haveSameCorners 11 = .ok (.iload_n 2, 1) := by decide +kernel
theorem dX2_haveSameCorners_12 : decode cX2_haveSameCorners 12 = .ok (.aload_n 0, 1) := by decide +kernel
theorem dX2_haveSameCorners_13 : decode cX2_haveSameCorners 13 = .ok (.getfield 19, 3) := by decide +kernel
theorem dX2_haveSameCorners_16 : decode cX2_haveSameCorners 16 = .ok (.iload_n 1, 1) := by decide +kernel
theorem dX2_haveSameCorners_17 : decode cX2_haveSameCorners 17 = .ok (.iload_n 3, 1) := by decide +kernel
theorem dX2_haveSameCorners_18 : decode cX2_haveSameCorners 18 = .ok (.invokevirtual 107, 3) := by decide +kernel
theorem dX2_haveSameCorners_21 : decode cX2_haveSameCorners 21 = .ok (.invokevirtual 268, 3) := by decide +kernel
theorem dX2_haveSameCorners_24 : decode cX2_haveSameCorners 24 = .ok (.ifCond .ne 5, 3) := by decide +kernel
theorem dX2_haveSameCorners_27 : decode cX2_haveSameCorners 27 = .ok (.iconst 0, 1) := by decide +kernel
theorem dX2_haveSameCorners_28 : decode cX2_haveSameCorners 28 = .ok (.ireturn, 1) := by decide +kernel
theorem dX2_haveSameCorners_29 : decode cX2_haveSameCorners 29 = .ok (.iinc 3 1, 3) := by decide +kernel
theorem dX2_haveSameCorners_32 : decode cX2_haveSameCorners 32 = .ok (.goto (-30), 3) := by decide +kernel
theorem dX2_haveSameCorners_35 : decode cX2_haveSameCorners 35 = .ok (.iconst 1, 1) := by decide +kernel
theorem dX2_haveSameCorners_36 : decode cX2_haveSameCorners 36 = .ok (.ireturn, 1) := by decide +kernel
set_option maxRecDepth 20000 in
theorem ggX2_reachesInto_X1_cornerOf : GoodIn wsX2_reachesInto wsX1_cornerOf := goodIn_r _ [7, 8, 43, 44, 45, 46] (by decide +kernel) (by decide +kernel)
set_option maxRecDepth 20000 in
theorem gX2_reachesInto_X1_cornerOf : GoodIn wsX2_reachesInto (wsV RX2 107 RX1 yX1_cornerOf wsX1_cornerOf) := goodIn_app (goodIn_of _ (by decide +kernel)) ggX2_reachesInto_X1_cornerOf
set_option maxRecDepth 20000 in
theorem ggX2_reachesInto_X1_hasCorner : GoodIn wsX2_reachesInto wsX1_hasCorner := goodIn_r _ [12, 8, 43, 44, 45, 46] (by decide +kernel) (by decide +kernel)
set_option maxRecDepth 20000 in
theorem gX2_reachesInto_X1_hasCorner : GoodIn wsX2_reachesInto (wsV RX2 268 RX1 yX1_hasCorner wsX1_hasCorner) := goodIn_app (goodIn_of _ (by decide +kernel)) ggX2_reachesInto_X1_hasCorner
set_option maxRecDepth 20000 in
theorem ggX2_reachesInto_X0_x : GoodIn wsX2_reachesInto wsX0_x := goodIn_r _ [17, 18, 47, 48, 49] (by decide +kernel) (by decide +kernel)
set_option maxRecDepth 20000 in
theorem gX2_reachesInto_X0_x : GoodIn wsX2_reachesInto (wsV RX2 213 RX0 yX0_x wsX0_x) := goodIn_app (goodIn_of _ (by decide +kernel)) ggX2_reachesInto_X0_x
set_option maxRecDepth 20000 in
theorem ggX2_reachesInto_X0_y : GoodIn wsX2_reachesInto wsX0_y := goodIn_r _ [22, 23, 47, 48, 49] (by decide +kernel) (by decide +kernel)
set_option maxRecDepth 20000 in
theorem gX2_reachesInto_X0_y : GoodIn wsX2_reachesInto (wsV RX2 210 RX0 yX0_y wsX0_y) := goodIn_app (goodIn_of _ (by decide +kernel)) ggX2_reachesInto_X0_y
set_option maxRecDepth 20000 in
theorem ggX2_reachesInto_X2_hasPlace : GoodIn wsX2_reachesInto wsX2_hasPlace := goodIn_r _ [28, 29, 30, 31, 27, 32, 2, 1, 3, 4, 5, 6, 7, 8, 33, 34, 35, 16, 36, 18, 23, 37, 38, 39, 40, 41, 42, 43, 44, 45, 46, 47, 48, 49] (by decide +kernel) (by decide +kernel)
set_option maxRecDepth 20000 in
theorem gX2_reachesInto_X2_hasPlace : GoodIn wsX2_reachesInto (wsV RX2 161 RX2 yX2_hasPlace wsX2_hasPlace) := goodIn_app (goodIn_of _ (by decide +kernel)) ggX2_reachesInto_X2_hasPlace
theorem dX2_reachesInto_0 : decode cX2_reachesInto 0 = .ok (.iconst 0, 1) := by decide +kernel
theorem dX2_reachesInto_1 : decode cX2_reachesInto 1 = .ok (.istore_n 3, 1) := by decide +kernel
theorem dX2_reachesInto_2 : decode cX2_reachesInto 2 = .ok (.iload_n 3, 1) := by decide +kernel
theorem dX2_reachesInto_3 : decode cX2_reachesInto 3 = .ok (.iconst 3, 1) := by decide +kernel
theorem dX2_reachesInto_4 : decode cX2_reachesInto 4 = .ok (.if_icmp .ge 61, 3) := by decide +kernel
theorem dX2_reachesInto_7 : decode cX2_reachesInto 7 = .ok (.aload_n 0, 1) := by decide +kernel
theorem dX2_reachesInto_8 : decode cX2_reachesInto 8 = .ok (.getfield 19, 3) := by decide +kernel
theorem dX2_reachesInto_11 : decode cX2_reachesInto 11 = .ok (.iload_n 1, 1) := by decide +kernel
theorem dX2_reachesInto_12 : decode cX2_reachesInto 12 = .ok (.iload_n 3, 1) := by decide +kernel
theorem dX2_reachesInto_13 : decode cX2_reachesInto 13 = .ok (.invokevirtual 107, 3) := by decide +kernel
theorem dX2_reachesInto_16 : decode cX2_reachesInto 16 = .ok (.istore 4, 2) := by decide +kernel
theorem dX2_reachesInto_18 : decode cX2_reachesInto 18 = .ok (.aload_n 0, 1) := by decide +kernel
theorem dX2_reachesInto_19 : decode cX2_reachesInto 19 = .ok (.getfield 19, 3) := by decide +kernel
theorem dX2_reachesInto_22 : decode cX2_reachesInto 22 = .ok (.iload_n 2, 1) := by decide +kernel
theorem dX2_reachesInto_23 : decode cX2_reachesInto 23 = .ok (.iload 4, 2) := by decide +kernel
theorem dX2_reachesInto_25 : decode cX2_reachesInto 25 = .ok (.invokevirtual 268, 3) := by decide +kernel
theorem dX2_reachesInto_28 : decode cX2_reachesInto 28 = .ok (.ifCond .ne 31, 3) := by decide +kernel
theorem dX2_reachesInto_31 : decode cX2_reachesInto 31 = .ok (.aload_n 0, 1) := by decide +kernel
theorem dX2_reachesInto_32 : decode cX2_reachesInto 32 = .ok (.iload_n 2, 1) := by decide +kernel
theorem dX2_reachesInto_33 : decode cX2_reachesInto 33 = .ok (.aload_n 0, 1) := by decide +kernel
theorem dX2_reachesInto_34 : decode cX2_reachesInto 34 = .ok (.getfield 10, 3) := by decide +kernel
theorem dX2_reachesInto_37 : decode cX2_reachesInto 37 = .ok (.iload 4, 2) := by decide +kernel
theorem dX2_reachesInto_39 : decode cX2_reachesInto 39 = .ok (.invokevirtual 213, 3) := by decide +kernel
theorem dX2_reachesInto_42 : decode cX2_reachesInto 42 = .ok (.aload_n 0, 1) := by decide +kernel
theorem dX2_reachesInto_43 : decode cX2_reachesInto 43 = .ok (.getfield 10, 3) := by decide +kernel
theorem dX2_reachesInto_46 : decode cX2_reachesInto 46 = .ok (.iload 4, 2) := by decide +kernel
theorem dX2_reachesInto_48 : decode cX2_reachesInto 48 = .ok (.invokevirtual 210, 3) := by decide +kernel
theorem dX2_reachesInto_51 : decode cX2_reachesInto 51 = .ok (.invokevirtual 161, 3) := by decide +kernel
theorem dX2_reachesInto_54 : decode cX2_reachesInto 54 = .ok (.ifCond .eq 5, 3) := by decide +kernel
theorem dX2_reachesInto_57 : decode cX2_reachesInto 57 = .ok (.iconst 1, 1) := by decide +kernel
theorem dX2_reachesInto_58 : decode cX2_reachesInto 58 = .ok (.ireturn, 1) := by decide +kernel
theorem dX2_reachesInto_59 : decode cX2_reachesInto 59 = .ok (.iinc 3 1, 3) := by decide +kernel
theorem dX2_reachesInto_62 : decode cX2_reachesInto 62 = .ok (.goto (-60), 3) := by decide +kernel
theorem dX2_reachesInto_65 : decode cX2_reachesInto 65 = .ok (.iconst 0, 1) := by decide +kernel
theorem dX2_reachesInto_66 : decode cX2_reachesInto 66 = .ok (.ireturn, 1) := by decide +kernel
set_option maxRecDepth 20000 in
theorem ggX2_crossesAnEdgeOf_X1_cornerOf : GoodIn wsX2_crossesAnEdgeOf wsX1_cornerOf := goodIn_r _ [7, 8, 33, 34, 35, 36] (by decide +kernel) (by decide +kernel)
set_option maxRecDepth 20000 in
theorem gX2_crossesAnEdgeOf_X1_cornerOf : GoodIn wsX2_crossesAnEdgeOf (wsV RX2 107 RX1 yX1_cornerOf wsX1_cornerOf) := goodIn_app (goodIn_of _ (by decide +kernel)) ggX2_crossesAnEdgeOf_X1_cornerOf
set_option maxRecDepth 20000 in
theorem ggX2_crossesAnEdgeOf_X0_isCrossing : GoodIn wsX2_crossesAnEdgeOf wsX0_isCrossing := goodIn_r _ [13, 14, 15, 16, 12, 17, 18, 19, 20, 21, 22, 23, 24, 25, 26, 37, 38, 39] (by decide +kernel) (by decide +kernel)
set_option maxRecDepth 20000 in
theorem gX2_crossesAnEdgeOf_X0_isCrossing : GoodIn wsX2_crossesAnEdgeOf (wsV RX2 271 RX0 yX0_isCrossing wsX0_isCrossing) := goodIn_app (goodIn_of _ (by decide +kernel)) ggX2_crossesAnEdgeOf_X0_isCrossing
theorem dX2_crossesAnEdgeOf_0 : decode cX2_crossesAnEdgeOf 0 = .ok (.iconst 0, 1) := by decide +kernel
theorem dX2_crossesAnEdgeOf_1 : decode cX2_crossesAnEdgeOf 1 = .ok (.istore_n 3, 1) := by decide +kernel
theorem dX2_crossesAnEdgeOf_2 : decode cX2_crossesAnEdgeOf 2 = .ok (.iload_n 3, 1) := by decide +kernel
theorem dX2_crossesAnEdgeOf_3 : decode cX2_crossesAnEdgeOf 3 = .ok (.iconst 3, 1) := by decide +kernel
theorem dX2_crossesAnEdgeOf_4 : decode cX2_crossesAnEdgeOf 4 = .ok (.if_icmp .ge 78, 3) := by decide +kernel
theorem dX2_crossesAnEdgeOf_7 : decode cX2_crossesAnEdgeOf 7 = .ok (.iconst 0, 1) := by decide +kernel
theorem dX2_crossesAnEdgeOf_8 : decode cX2_crossesAnEdgeOf 8 = .ok (.istore 4, 2) := by decide +kernel
theorem dX2_crossesAnEdgeOf_10 : decode cX2_crossesAnEdgeOf 10 = .ok (.iload 4, 2) := by decide +kernel
theorem dX2_crossesAnEdgeOf_12 : decode cX2_crossesAnEdgeOf 12 = .ok (.iconst 3, 1) := by decide +kernel
theorem dX2_crossesAnEdgeOf_13 : decode cX2_crossesAnEdgeOf 13 = .ok (.if_icmp .ge 63, 3) := by decide +kernel
theorem dX2_crossesAnEdgeOf_16 : decode cX2_crossesAnEdgeOf 16 = .ok (.aload_n 0, 1) := by decide +kernel
theorem dX2_crossesAnEdgeOf_17 : decode cX2_crossesAnEdgeOf 17 = .ok (.getfield 10, 3) := by decide +kernel
theorem dX2_crossesAnEdgeOf_20 : decode cX2_crossesAnEdgeOf 20 = .ok (.aload_n 0, 1) := by decide +kernel
theorem dX2_crossesAnEdgeOf_21 : decode cX2_crossesAnEdgeOf 21 = .ok (.getfield 19, 3) := by decide +kernel
theorem dX2_crossesAnEdgeOf_24 : decode cX2_crossesAnEdgeOf 24 = .ok (.iload_n 1, 1) := by decide +kernel
theorem dX2_crossesAnEdgeOf_25 : decode cX2_crossesAnEdgeOf 25 = .ok (.iload_n 3, 1) := by decide +kernel
theorem dX2_crossesAnEdgeOf_26 : decode cX2_crossesAnEdgeOf 26 = .ok (.invokevirtual 107, 3) := by decide +kernel
theorem dX2_crossesAnEdgeOf_29 : decode cX2_crossesAnEdgeOf 29 = .ok (.aload_n 0, 1) := by decide +kernel
theorem dX2_crossesAnEdgeOf_30 : decode cX2_crossesAnEdgeOf 30 = .ok (.getfield 19, 3) := by decide +kernel
theorem dX2_crossesAnEdgeOf_33 : decode cX2_crossesAnEdgeOf 33 = .ok (.iload_n 1, 1) := by decide +kernel
theorem dX2_crossesAnEdgeOf_34 : decode cX2_crossesAnEdgeOf 34 = .ok (.iload_n 3, 1) := by decide +kernel
theorem dX2_crossesAnEdgeOf_35 : decode cX2_crossesAnEdgeOf 35 = .ok (.iconst 1, 1) := by decide +kernel
theorem dX2_crossesAnEdgeOf_36 : decode cX2_crossesAnEdgeOf 36 = .ok (.iadd, 1) := by decide +kernel
theorem dX2_crossesAnEdgeOf_37 : decode cX2_crossesAnEdgeOf 37 = .ok (.invokevirtual 107, 3) := by decide +kernel
theorem dX2_crossesAnEdgeOf_40 : decode cX2_crossesAnEdgeOf 40 = .ok (.aload_n 0, 1) := by decide +kernel
theorem dX2_crossesAnEdgeOf_41 : decode cX2_crossesAnEdgeOf 41 = .ok (.getfield 19, 3) := by decide +kernel
theorem dX2_crossesAnEdgeOf_44 : decode cX2_crossesAnEdgeOf 44 = .ok (.iload_n 2, 1) := by decide +kernel
theorem dX2_crossesAnEdgeOf_45 : decode cX2_crossesAnEdgeOf 45 = .ok (.iload 4, 2) := by decide +kernel
theorem dX2_crossesAnEdgeOf_47 : decode cX2_crossesAnEdgeOf 47 = .ok (.invokevirtual 107, 3) := by decide +kernel
theorem dX2_crossesAnEdgeOf_50 : decode cX2_crossesAnEdgeOf 50 = .ok (.aload_n 0, 1) := by decide +kernel
theorem dX2_crossesAnEdgeOf_51 : decode cX2_crossesAnEdgeOf 51 = .ok (.getfield 19, 3) := by decide +kernel
theorem dX2_crossesAnEdgeOf_54 : decode cX2_crossesAnEdgeOf 54 = .ok (.iload_n 2, 1) := by decide +kernel
theorem dX2_crossesAnEdgeOf_55 : decode cX2_crossesAnEdgeOf 55 = .ok (.iload 4, 2) := by decide +kernel
theorem dX2_crossesAnEdgeOf_57 : decode cX2_crossesAnEdgeOf 57 = .ok (.iconst 1, 1) := by decide +kernel
theorem dX2_crossesAnEdgeOf_58 : decode cX2_crossesAnEdgeOf 58 = .ok (.iadd, 1) := by decide +kernel
theorem dX2_crossesAnEdgeOf_59 : decode cX2_crossesAnEdgeOf 59 = .ok (.invokevirtual 107, 3) := by decide +kernel
theorem dX2_crossesAnEdgeOf_62 : decode cX2_crossesAnEdgeOf 62 = .ok (.invokevirtual 271, 3) := by decide +kernel
theorem dX2_crossesAnEdgeOf_65 : decode cX2_crossesAnEdgeOf 65 = .ok (.ifCond .eq 5, 3) := by decide +kernel
theorem dX2_crossesAnEdgeOf_68 : decode cX2_crossesAnEdgeOf 68 = .ok (.iconst 1, 1) := by decide +kernel
theorem dX2_crossesAnEdgeOf_69 : decode cX2_crossesAnEdgeOf 69 = .ok (.ireturn, 1) := by decide +kernel
theorem dX2_crossesAnEdgeOf_70 : decode cX2_crossesAnEdgeOf 70 = .ok (.iinc 4 1, 3) := by decide +kernel
theorem dX2_crossesAnEdgeOf_73 : decode cX2_crossesAnEdgeOf 73 = .ok (.goto (-63), 3) := by decide +kernel
theorem dX2_crossesAnEdgeOf_76 : decode cX2_crossesAnEdgeOf 76 = .ok (.iinc 3 1, 3) := by decide +kernel
theorem dX2_crossesAnEdgeOf_79 : decode cX2_crossesAnEdgeOf 79 = .ok (.goto (-77), 3) := by decide +kernel
theorem dX2_crossesAnEdgeOf_82 : decode cX2_crossesAnEdgeOf 82 = .ok (.iconst 0, 1) := by decide +kernel
theorem dX2_crossesAnEdgeOf_83 : decode cX2_crossesAnEdgeOf 83 = .ok (.ireturn, 1) := by decide +kernel
set_option maxRecDepth 20000 in
theorem ggX2_isGoodEdge_X1_neighbour : GoodIn wsX2_isGoodEdge wsX1_neighbour := goodIn_r _ [7, 8, 9, 10, 11, 12, 6, 13, 14, 15, 16, 17, 18, 37, 38, 39, 40] (by decide +kernel) (by decide +kernel)
set_option maxRecDepth 20000 in
theorem gX2_isGoodEdge_X1_neighbour : GoodIn wsX2_isGoodEdge (wsV RX2 164 RX1 yX1_neighbour wsX1_neighbour) := goodIn_app (goodIn_of _ (by decide +kernel)) ggX2_isGoodEdge_X1_neighbour
set_option maxRecDepth 20000 in
theorem ggX2_isGoodEdge_X1_cornerOf : GoodIn wsX2_isGoodEdge wsX1_cornerOf := goodIn_r _ [13, 14, 37, 38, 39, 40] (by decide +kernel) (by decide +kernel)
set_option maxRecDepth 20000 in
theorem gX2_isGoodEdge_X1_cornerOf : GoodIn wsX2_isGoodEdge (wsV RX2 107 RX1 yX1_cornerOf wsX1_cornerOf) := goodIn_app (goodIn_of _ (by decide +kernel)) ggX2_isGoodEdge_X1_cornerOf
set_option maxRecDepth 20000 in
theorem ggX2_isGoodEdge_X1_thirdCorner : GoodIn wsX2_isGoodEdge wsX1_thirdCorner := goodIn_r _ [23, 14, 37, 38, 39, 40] (by decide +kernel) (by decide +kernel)
set_option maxRecDepth 20000 in
theorem gX2_isGoodEdge_X1_thirdCorner : GoodIn wsX2_isGoodEdge (wsV RX2 275 RX1 yX1_thirdCorner wsX1_thirdCorner) := goodIn_app (goodIn_of _ (by decide +kernel)) ggX2_isGoodEdge_X1_thirdCorner
set_option maxRecDepth 20000 in
theorem ggX2_isGoodEdge_X0_circleSide : GoodIn wsX2_isGoodEdge wsX0_circleSide := goodIn_r _ [28, 29, 30, 41, 42, 43] (by decide +kernel) (by decide +kernel)
set_option maxRecDepth 20000 in
theorem gX2_isGoodEdge_X0_circleSide : GoodIn wsX2_isGoodEdge (wsV RX2 278 RX0 yX0_circleSide wsX0_circleSide) := goodIn_app (goodIn_of _ (by decide +kernel)) ggX2_isGoodEdge_X0_circleSide
theorem dX2_isGoodEdge_0 : decode cX2_isGoodEdge 0 = .ok (.aload_n 0, 1) := by decide +kernel
theorem dX2_isGoodEdge_1 : decode cX2_isGoodEdge 1 = .ok (.getfield 19, 3) := by decide +kernel
theorem dX2_isGoodEdge_4 : decode cX2_isGoodEdge 4 = .ok (.iload_n 1, 1) := by decide +kernel
theorem dX2_isGoodEdge_5 : decode cX2_isGoodEdge 5 = .ok (.iload_n 2, 1) := by decide +kernel
theorem dX2_isGoodEdge_6 : decode cX2_isGoodEdge 6 = .ok (.invokevirtual 164, 3) := by decide +kernel
theorem dX2_isGoodEdge_9 : decode cX2_isGoodEdge 9 = .ok (.istore_n 3, 1) := by decide +kernel
theorem dX2_isGoodEdge_10 : decode cX2_isGoodEdge 10 = .ok (.iload_n 3, 1) := by decide +kernel
theorem dX2_isGoodEdge_11 : decode cX2_isGoodEdge 11 = .ok (.iconst (-1), 1) := by decide +kernel
theorem dX2_isGoodEdge_12 : decode cX2_isGoodEdge 12 = .ok (.if_icmp .ne 5, 3) := by decide +kernel
theorem dX2_isGoodEdge_15 : decode cX2_isGoodEdge 15 = .ok (.iconst 1, 1) := by decide +kernel
theorem dX2_isGoodEdge_16 : decode cX2_isGoodEdge 16 = .ok (.ireturn, 1) := by decide +kernel
theorem dX2_isGoodEdge_17 : decode cX2_isGoodEdge 17 = .ok (.aload_n 0, 1) := by decide +kernel
theorem dX2_isGoodEdge_18 : decode cX2_isGoodEdge 18 = .ok (.getfield 19, 3) := by decide +kernel
theorem dX2_isGoodEdge_21 : decode cX2_isGoodEdge 21 = .ok (.iload_n 1, 1) := by decide +kernel
theorem dX2_isGoodEdge_22 : decode cX2_isGoodEdge 22 = .ok (.iload_n 2, 1) := by decide +kernel
theorem dX2_isGoodEdge_23 : decode cX2_isGoodEdge 23 = .ok (.invokevirtual 107, 3) := by decide +kernel
theorem dX2_isGoodEdge_26 : decode cX2_isGoodEdge 26 = .ok (.istore 4, 2) := by decide +kernel
theorem dX2_isGoodEdge_28 : decode cX2_isGoodEdge 28 = .ok (.aload_n 0, 1) := by decide +kernel
theorem dX2_isGoodEdge_29 : decode cX2_isGoodEdge 29 = .ok (.getfield 19, 3) := by decide +kernel
theorem dX2_isGoodEdge_32 : decode cX2_isGoodEdge 32 = .ok (.iload_n 1, 1) := by decide +kernel
theorem dX2_isGoodEdge_33 : decode cX2_isGoodEdge 33 = .ok (.iload_n 2, 1) := by decide +kernel
theorem dX2_isGoodEdge_34 : decode cX2_isGoodEdge 34 = .ok (.iconst 1, 1) := by decide +kernel
theorem dX2_isGoodEdge_35 : decode cX2_isGoodEdge 35 = .ok (.iadd, 1) := by decide +kernel
theorem dX2_isGoodEdge_36 : decode cX2_isGoodEdge 36 = .ok (.invokevirtual 107, 3) := by decide +kernel
theorem dX2_isGoodEdge_39 : decode cX2_isGoodEdge 39 = .ok (.istore 5, 2) := by decide +kernel
theorem dX2_isGoodEdge_41 : decode cX2_isGoodEdge 41 = .ok (.aload_n 0, 1) := by decide +kernel
theorem dX2_isGoodEdge_42 : decode cX2_isGoodEdge 42 = .ok (.getfield 19, 3) := by decide +kernel
theorem dX2_isGoodEdge_45 : decode cX2_isGoodEdge 45 = .ok (.iload_n 1, 1) := by decide +kernel
theorem dX2_isGoodEdge_46 : decode cX2_isGoodEdge 46 = .ok (.iload_n 2, 1) := by decide +kernel
theorem dX2_isGoodEdge_47 : decode cX2_isGoodEdge 47 = .ok (.iconst 2, 1) := by decide +kernel
theorem dX2_isGoodEdge_48 : decode cX2_isGoodEdge 48 = .ok (.iadd, 1) := by decide +kernel
theorem dX2_isGoodEdge_49 : decode cX2_isGoodEdge 49 = .ok (.invokevirtual 107, 3) := by decide +kernel
theorem dX2_isGoodEdge_52 : decode cX2_isGoodEdge 52 = .ok (.istore 6, 2) := by decide +kernel
theorem dX2_isGoodEdge_54 : decode cX2_isGoodEdge 54 = .ok (.aload_n 0, 1) := by decide +kernel
theorem dX2_isGoodEdge_55 : decode cX2_isGoodEdge 55 = .ok (.getfield 10, 3) := by decide +kernel
theorem dX2_isGoodEdge_58 : decode cX2_isGoodEdge 58 = .ok (.iload 4, 2) := by decide +kernel
theorem dX2_isGoodEdge_60 : decode cX2_isGoodEdge 60 = .ok (.iload 5, 2) := by decide +kernel
theorem dX2_isGoodEdge_62 : decode cX2_isGoodEdge 62 = .ok (.iload 6, 2) := by decide +kernel
theorem dX2_isGoodEdge_64 : decode cX2_isGoodEdge 64 = .ok (.aload_n 0, 1) := by decide +kernel
theorem dX2_isGoodEdge_65 : decode cX2_isGoodEdge 65 = .ok (.getfield 19, 3) := by decide +kernel
theorem dX2_isGoodEdge_68 : decode cX2_isGoodEdge 68 = .ok (.iload_n 3, 1) := by decide +kernel
theorem dX2_isGoodEdge_69 : decode cX2_isGoodEdge 69 = .ok (.iload 4, 2) := by decide +kernel
theorem dX2_isGoodEdge_71 : decode cX2_isGoodEdge 71 = .ok (.iload 5, 2) := by decide +kernel
theorem dX2_isGoodEdge_73 : decode cX2_isGoodEdge 73 = .ok (.invokevirtual 275, 3) := by decide +kernel
theorem dX2_isGoodEdge_76 : decode cX2_isGoodEdge 76 = .ok (.invokevirtual 278, 3) := by decide +kernel
