theorem dX2_isGoodEdge_79 : decode cX2_isGoodEdge 79 = .ok (.lconst 0, 1) := by decide +kernel
theorem dX2_isGoodEdge_80 : decode cX2_isGoodEdge 80 = .ok (.lcmp, 1) := by decide +kernel
theorem dX2_isGoodEdge_81 : decode cX2_isGoodEdge 81 = .ok (.ifCond .gt 7, 3) := by decide +kernel
theorem dX2_isGoodEdge_84 : decode cX2_isGoodEdge 84 = .ok (.iconst 1, 1) := by decide +kernel
theorem dX2_isGoodEdge_85 : decode cX2_isGoodEdge 85 = .ok (.goto 4, 3) := by decide +kernel
theorem dX2_isGoodEdge_88 : decode cX2_isGoodEdge 88 = .ok (.iconst 0, 1) := by decide +kernel
theorem dX2_isGoodEdge_89 : decode cX2_isGoodEdge 89 = .ok (.ireturn, 1) := by decide +kernel
set_option maxRecDepth 20000 in
theorem ggX2_turnEdge_X1_neighbour : GoodIn wsX2_turnEdge wsX1_neighbour := goodIn_r _ [7, 8, 9, 10, 11, 12, 6, 13, 14, 15, 16, 17, 18, 45, 46, 47, 48] (by decide +kernel) (by decide +kernel)
set_option maxRecDepth 20000 in
theorem gX2_turnEdge_X1_neighbour : GoodIn wsX2_turnEdge (wsV RX2 164 RX1 yX1_neighbour wsX1_neighbour) := goodIn_app (goodIn_of _ (by decide +kernel)) ggX2_turnEdge_X1_neighbour
set_option maxRecDepth 20000 in
theorem ggX2_turnEdge_X1_cornerOf : GoodIn wsX2_turnEdge wsX1_cornerOf := goodIn_r _ [13, 14, 45, 46, 47, 48] (by decide +kernel) (by decide +kernel)
set_option maxRecDepth 20000 in
theorem gX2_turnEdge_X1_cornerOf : GoodIn wsX2_turnEdge (wsV RX2 107 RX1 yX1_cornerOf wsX1_cornerOf) := goodIn_app (goodIn_of _ (by decide +kernel)) ggX2_turnEdge_X1_cornerOf
set_option maxRecDepth 20000 in
theorem ggX2_turnEdge_X1_thirdCorner : GoodIn wsX2_turnEdge wsX1_thirdCorner := goodIn_r _ [23, 14, 45, 46, 47, 48] (by decide +kernel) (by decide +kernel)
set_option maxRecDepth 20000 in
theorem gX2_turnEdge_X1_thirdCorner : GoodIn wsX2_turnEdge (wsV RX2 275 RX1 yX1_thirdCorner wsX1_thirdCorner) := goodIn_app (goodIn_of _ (by decide +kernel)) ggX2_turnEdge_X1_thirdCorner
set_option maxRecDepth 20000 in
theorem ggX2_turnEdge_X0_turnOf : GoodIn wsX2_turnEdge wsX0_turnOf := goodIn_r _ [28, 29, 30, 31, 32, 33, 27, 34, 49, 50, 51] (by decide +kernel) (by decide +kernel)
set_option maxRecDepth 20000 in
theorem gX2_turnEdge_X0_turnOf : GoodIn wsX2_turnEdge (wsV RX2 189 RX0 yX0_turnOf wsX0_turnOf) := goodIn_app (goodIn_of _ (by decide +kernel)) ggX2_turnEdge_X0_turnOf
set_option maxRecDepth 20000 in
theorem ggX2_turnEdge_X1_put : GoodIn wsX2_turnEdge wsX1_put := goodIn_r _ [38, 14, 45, 46, 47, 48] (by decide +kernel) (by decide +kernel)
set_option maxRecDepth 20000 in
theorem gX2_turnEdge_X1_put : GoodIn wsX2_turnEdge (wsV RX2 110 RX1 yX1_put wsX1_put) := goodIn_app (goodIn_of _ (by decide +kernel)) ggX2_turnEdge_X1_put
theorem dX2_turnEdge_0 : decode cX2_turnEdge 0 = .ok (.aload_n 0, 1) := by decide +kernel
theorem dX2_turnEdge_1 : decode cX2_turnEdge 1 = .ok (.getfield 19, 3) := by decide +kernel
theorem dX2_turnEdge_4 : decode cX2_turnEdge 4 = .ok (.iload_n 1, 1) := by decide +kernel
theorem dX2_turnEdge_5 : decode cX2_turnEdge 5 = .ok (.iload_n 2, 1) := by decide +kernel
theorem dX2_turnEdge_6 : decode cX2_turnEdge 6 = .ok (.invokevirtual 164, 3) := by decide +kernel
theorem dX2_turnEdge_9 : decode cX2_turnEdge 9 = .ok (.istore_n 3, 1) := by decide +kernel
theorem dX2_turnEdge_10 : decode cX2_turnEdge 10 = .ok (.iload_n 3, 1) := by decide +kernel
theorem dX2_turnEdge_11 : decode cX2_turnEdge 11 = .ok (.iconst (-1), 1) := by decide +kernel
theorem dX2_turnEdge_12 : decode cX2_turnEdge 12 = .ok (.if_icmp .ne 5, 3) := by decide +kernel
theorem dX2_turnEdge_15 : decode cX2_turnEdge 15 = .ok (.iconst 0, 1) := by decide +kernel
theorem dX2_turnEdge_16 : decode cX2_turnEdge 16 = .ok (.ireturn, 1) := by decide +kernel
theorem dX2_turnEdge_17 : decode cX2_turnEdge 17 = .ok (.aload_n 0, 1) := by decide +kernel
theorem dX2_turnEdge_18 : decode cX2_turnEdge 18 = .ok (.getfield 19, 3) := by decide +kernel
theorem dX2_turnEdge_21 : decode cX2_turnEdge 21 = .ok (.iload_n 1, 1) := by decide +kernel
theorem dX2_turnEdge_22 : decode cX2_turnEdge 22 = .ok (.iload_n 2, 1) := by decide +kernel
theorem dX2_turnEdge_23 : decode cX2_turnEdge 23 = .ok (.invokevirtual 107, 3) := by decide +kernel
theorem dX2_turnEdge_26 : decode cX2_turnEdge 26 = .ok (.istore 4, 2) := by decide +kernel
theorem dX2_turnEdge_28 : decode cX2_turnEdge 28 = .ok (.aload_n 0, 1) := by decide +kernel
theorem dX2_turnEdge_29 : decode cX2_turnEdge 29 = .ok (.getfield 19, 3) := by decide +kernel
theorem dX2_turnEdge_32 : decode cX2_turnEdge 32 = .ok (.iload_n 1, 1) := by decide +kernel
theorem dX2_turnEdge_33 : decode cX2_turnEdge 33 = .ok (.iload_n 2, 1) := by decide +kernel
theorem dX2_turnEdge_34 : decode cX2_turnEdge 34 = .ok (.iconst 1, 1) := by decide +kernel
theorem dX2_turnEdge_35 : decode cX2_turnEdge 35 = .ok (.iadd, 1) := by decide +kernel
theorem dX2_turnEdge_36 : decode cX2_turnEdge 36 = .ok (.invokevirtual 107, 3) := by decide +kernel
theorem dX2_turnEdge_39 : decode cX2_turnEdge 39 = .ok (.istore 5, 2) := by decide +kernel
theorem dX2_turnEdge_41 : decode cX2_turnEdge 41 = .ok (.aload_n 0, 1) := by decide +kernel
theorem dX2_turnEdge_42 : decode cX2_turnEdge 42 = .ok (.getfield 19, 3) := by decide +kernel
theorem dX2_turnEdge_45 : decode cX2_turnEdge 45 = .ok (.iload_n 1, 1) := by decide +kernel
theorem dX2_turnEdge_46 : decode cX2_turnEdge 46 = .ok (.iload_n 2, 1) := by decide +kernel
theorem dX2_turnEdge_47 : decode cX2_turnEdge 47 = .ok (.iconst 2, 1) := by decide +kernel
theorem dX2_turnEdge_48 : decode cX2_turnEdge 48 = .ok (.iadd, 1) := by decide +kernel
theorem dX2_turnEdge_49 : decode cX2_turnEdge 49 = .ok (.invokevirtual 107, 3) := by decide +kernel
theorem dX2_turnEdge_52 : decode cX2_turnEdge 52 = .ok (.istore 6, 2) := by decide +kernel
theorem dX2_turnEdge_54 : decode cX2_turnEdge 54 = .ok (.aload_n 0, 1) := by decide +kernel
theorem dX2_turnEdge_55 : decode cX2_turnEdge 55 = .ok (.getfield 19, 3) := by decide +kernel
theorem dX2_turnEdge_58 : decode cX2_turnEdge 58 = .ok (.iload_n 3, 1) := by decide +kernel
theorem dX2_turnEdge_59 : decode cX2_turnEdge 59 = .ok (.iload 4, 2) := by decide +kernel
theorem dX2_turnEdge_61 : decode cX2_turnEdge 61 = .ok (.iload 5, 2) := by decide +kernel
theorem dX2_turnEdge_63 : decode cX2_turnEdge 63 = .ok (.invokevirtual 275, 3) := by decide +kernel
theorem dX2_turnEdge_66 : decode cX2_turnEdge 66 = .ok (.istore 7, 2) := by decide +kernel
theorem dX2_turnEdge_68 : decode cX2_turnEdge 68 = .ok (.aload_n 0, 1) := by decide +kernel
theorem dX2_turnEdge_69 : decode cX2_turnEdge 69 = .ok (.getfield 10, 3) := by decide +kernel
theorem dX2_turnEdge_72 : decode cX2_turnEdge 72 = .ok (.iload 4, 2) := by decide +kernel
theorem dX2_turnEdge_74 : decode cX2_turnEdge 74 = .ok (.iload 7, 2) := by decide +kernel
theorem dX2_turnEdge_76 : decode cX2_turnEdge 76 = .ok (.iload 6, 2) := by decide +kernel
theorem dX2_turnEdge_78 : decode cX2_turnEdge 78 = .ok (.invokevirtual 189, 3) := by decide +kernel
theorem dX2_turnEdge_81 : decode cX2_turnEdge 81 = .ok (.ifCond .le 19, 3) := by decide +kernel
theorem dX2_turnEdge_84 : decode cX2_turnEdge 84 = .ok (.aload_n 0, 1) := by decide +kernel
theorem dX2_turnEdge_85 : decode cX2_turnEdge 85 = .ok (.getfield 10, 3) := by decide +kernel
theorem dX2_turnEdge_88 : decode cX2_turnEdge 88 = .ok (.iload 7, 2) := by decide +kernel
theorem dX2_turnEdge_90 : decode cX2_turnEdge 90 = .ok (.iload 5, 2) := by decide +kernel
theorem dX2_turnEdge_92 : decode cX2_turnEdge 92 = .ok (.iload 6, 2) := by decide +kernel
theorem dX2_turnEdge_94 : decode cX2_turnEdge 94 = .ok (.invokevirtual 189, 3) := by decide +kernel
theorem dX2_turnEdge_97 : decode cX2_turnEdge 97 = .ok (.ifCond .gt 5, 3) := by decide +kernel
theorem dX2_turnEdge_100 : decode cX2_turnEdge 100 = .ok (.iconst 0, 1) := by decide +kernel
theorem dX2_turnEdge_101 : decode cX2_turnEdge 101 = .ok (.ireturn, 1) := by decide +kernel
theorem dX2_turnEdge_102 : decode cX2_turnEdge 102 = .ok (.aload_n 0, 1) := by decide +kernel
theorem dX2_turnEdge_103 : decode cX2_turnEdge 103 = .ok (.getfield 19, 3) := by decide +kernel
theorem dX2_turnEdge_106 : decode cX2_turnEdge 106 = .ok (.iload_n 1, 1) := by decide +kernel
theorem dX2_turnEdge_107 : decode cX2_turnEdge 107 = .ok (.iload 6, 2) := by decide +kernel
theorem dX2_turnEdge_109 : decode cX2_turnEdge 109 = .ok (.iload 4, 2) := by decide +kernel
theorem dX2_turnEdge_111 : decode cX2_turnEdge 111 = .ok (.iload 7, 2) := by decide +kernel
theorem dX2_turnEdge_113 : decode cX2_turnEdge 113 = .ok (.invokevirtual 110, 3) := by decide +kernel
theorem dX2_turnEdge_116 : decode cX2_turnEdge 116 = .ok (.aload_n 0, 1) := by decide +kernel
theorem dX2_turnEdge_117 : decode cX2_turnEdge 117 = .ok (.getfield 19, 3) := by decide +kernel
theorem dX2_turnEdge_120 : decode cX2_turnEdge 120 = .ok (.iload_n 3, 1) := by decide +kernel
theorem dX2_turnEdge_121 : decode cX2_turnEdge 121 = .ok (.iload 7, 2) := by decide +kernel
theorem dX2_turnEdge_123 : decode cX2_turnEdge 123 = .ok (.iload 5, 2) := by decide +kernel
theorem dX2_turnEdge_125 : decode cX2_turnEdge 125 = .ok (.iload 6, 2) := by decide +kernel
theorem dX2_turnEdge_127 : decode cX2_turnEdge 127 = .ok (.invokevirtual 110, 3) := by decide +kernel
theorem dX2_turnEdge_130 : decode cX2_turnEdge 130 = .ok (.iconst 1, 1) := by decide +kernel
theorem dX2_turnEdge_131 : decode cX2_turnEdge 131 = .ok (.ireturn, 1) := by decide +kernel
set_option maxRecDepth 20000 in
theorem ggX2_turnFirstBadEdge_X1_thereCount : GoodIn wsX2_turnFirstBadEdge wsX1_thereCount := goodIn_r _ [6, 7, 66, 67, 68, 69] (by decide +kernel) (by decide +kernel)
set_option maxRecDepth 20000 in
theorem gX2_turnFirstBadEdge_X1_thereCount : GoodIn wsX2_turnFirstBadEdge (wsV RX2 127 RX1 yX1_thereCount wsX1_thereCount) := goodIn_app (goodIn_of _ (by decide +kernel)) ggX2_turnFirstBadEdge_X1_thereCount
set_option maxRecDepth 20000 in
theorem ggX2_turnFirstBadEdge_X1_numberAt : GoodIn wsX2_turnFirstBadEdge wsX1_numberAt := goodIn_r _ [11, 12, 66, 67, 68, 69] (by decide +kernel) (by decide +kernel)
set_option maxRecDepth 20000 in
theorem gX2_turnFirstBadEdge_X1_numberAt : GoodIn wsX2_turnFirstBadEdge (wsV RX2 131 RX1 yX1_numberAt wsX1_numberAt) := goodIn_app (goodIn_of _ (by decide +kernel)) ggX2_turnFirstBadEdge_X1_numberAt
set_option maxRecDepth 20000 in
theorem ggX2_turnFirstBadEdge_X2_isGoodEdge : GoodIn wsX2_turnFirstBadEdge wsX2_isGoodEdge := goodIn_r _ [17, 1, 18, 19, 20, 21, 5, 22, 7, 12, 23, 24, 25, 26, 27, 28, 29, 30, 31, 32, 33, 34, 35, 36, 37, 38, 39, 40, 41, 42, 43, 60, 61, 62, 63, 64, 65, 66, 67, 68, 69, 70, 71, 72] (by decide +kernel) (by decide +kernel)
set_option maxRecDepth 20000 in
theorem gX2_turnFirstBadEdge_X2_isGoodEdge : GoodIn wsX2_turnFirstBadEdge (wsV RX2 167 RX2 yX2_isGoodEdge wsX2_isGoodEdge) := goodIn_app (goodIn_of _ (by decide +kernel)) ggX2_turnFirstBadEdge_X2_isGoodEdge
set_option maxRecDepth 20000 in
theorem ggX2_turnFirstBadEdge_X2_turnEdge : GoodIn wsX2_turnFirstBadEdge wsX2_turnEdge := goodIn_r _ [47, 1, 18, 19, 20, 21, 5, 22, 7, 12, 23, 24, 25, 26, 27, 28, 29, 30, 31, 32, 33, 34, 35, 36, 48, 49, 50, 40, 51, 42, 43, 52, 53, 54, 55, 56, 57, 58, 59, 60, 61, 62, 63, 64, 65, 66, 67, 68, 69, 70, 71, 72] (by decide +kernel) (by decide +kernel)
set_option maxRecDepth 20000 in
theorem gX2_turnFirstBadEdge_X2_turnEdge : GoodIn wsX2_turnFirstBadEdge (wsV RX2 118 RX2 yX2_turnEdge wsX2_turnEdge) := goodIn_app (goodIn_of _ (by decide +kernel)) ggX2_turnFirstBadEdge_X2_turnEdge
theorem dX2_turnFirstBadEdge_0 : decode cX2_turnFirstBadEdge 0 = .ok (.iconst 0, 1) := by decide +kernel
theorem dX2_turnFirstBadEdge_1 : decode cX2_turnFirstBadEdge 1 = .ok (.istore_n 1, 1) := by decide +kernel
theorem dX2_turnFirstBadEdge_2 : decode cX2_turnFirstBadEdge 2 = .ok (.iload_n 1, 1) := by decide +kernel
theorem dX2_turnFirstBadEdge_3 : decode cX2_turnFirstBadEdge 3 = .ok (.aload_n 0, 1) := by decide +kernel
theorem dX2_turnFirstBadEdge_4 : decode cX2_turnFirstBadEdge 4 = .ok (.getfield 19, 3) := by decide +kernel
theorem dX2_turnFirstBadEdge_7 : decode cX2_turnFirstBadEdge 7 = .ok (.invokevirtual 127, 3) := by decide +kernel
theorem dX2_turnFirstBadEdge_10 : decode cX2_turnFirstBadEdge 10 = .ok (.if_icmp .ge 51, 3) := by decide +kernel
theorem dX2_turnFirstBadEdge_13 : decode cX2_turnFirstBadEdge 13 = .ok (.aload_n 0, 1) := by decide +kernel
theorem dX2_turnFirstBadEdge_14 : decode cX2_turnFirstBadEdge 14 = .ok (.getfield 19, 3) := by decide +kernel
theorem dX2_turnFirstBadEdge_17 : decode cX2_turnFirstBadEdge 17 = .ok (.iload_n 1, 1) := by decide +kernel
theorem dX2_turnFirstBadEdge_18 : decode cX2_turnFirstBadEdge 18 = .ok (.invokevirtual 131, 3) := by decide +kernel
theorem dX2_turnFirstBadEdge_21 : decode cX2_turnFirstBadEdge 21 = .ok (.istore_n 2, 1) := by decide +kernel
theorem dX2_turnFirstBadEdge_22 : decode cX2_turnFirstBadEdge 22 = .ok (.iconst 0, 1) := by decide +kernel
theorem dX2_turnFirstBadEdge_23 : decode cX2_turnFirstBadEdge 23 = .ok (.istore_n 3, 1) := by decide +kernel
theorem dX2_turnFirstBadEdge_24 : decode cX2_turnFirstBadEdge 24 = .ok (.iload_n 3, 1) := by decide +kernel
theorem dX2_turnFirstBadEdge_25 : decode cX2_turnFirstBadEdge 25 = .ok (.iconst 3, 1) := by decide +kernel
theorem dX2_turnFirstBadEdge_26 : decode cX2_turnFirstBadEdge 26 = .ok (.if_icmp .ge 29, 3) := by decide +kernel
theorem dX2_turnFirstBadEdge_29 : decode cX2_turnFirstBadEdge 29 = .ok (.aload_n 0, 1) := by decide +kernel
theorem dX2_turnFirstBadEdge_30 : decode cX2_turnFirstBadEdge 30 = .ok (.iload_n 2, 1) := by decide +kernel
theorem dX2_turnFirstBadEdge_31 : decode cX2_turnFirstBadEdge 31 = .ok (.iload_n 3, 1) := by decide +kernel
theorem dX2_turnFirstBadEdge_32 : decode cX2_turnFirstBadEdge 32 = .ok (.invokevirtual 167, 3) := by decide +kernel
theorem dX2_turnFirstBadEdge_35 : decode cX2_turnFirstBadEdge 35 = .ok (.ifCond .ne 14, 3) := by decide +kernel
theorem dX2_turnFirstBadEdge_38 : decode cX2_turnFirstBadEdge 38 = .ok (.aload_n 0, 1) := by decide +kernel
theorem dX2_turnFirstBadEdge_39 : decode cX2_turnFirstBadEdge 39 = .ok (.iload_n 2, 1) := by decide +kernel
theorem dX2_turnFirstBadEdge_40 : decode cX2_turnFirstBadEdge 40 = .ok (.iload_n 3, 1) := by decide +kernel
theorem dX2_turnFirstBadEdge_41 : decode cX2_turnFirstBadEdge 41 = .ok (.invokevirtual 118, 3) := by decide +kernel
theorem dX2_turnFirstBadEdge_44 : decode cX2_turnFirstBadEdge 44 = .ok (.ifCond .eq 5, 3) := by decide +kernel
theorem dX2_turnFirstBadEdge_47 : decode cX2_turnFirstBadEdge 47 = .ok (.iconst 1, 1) := by decide +kernel
theorem dX2_turnFirstBadEdge_48 : decode cX2_turnFirstBadEdge 48 = .ok (.ireturn, 1) := by decide +kernel
theorem dX2_turnFirstBadEdge_49 : decode cX2_turnFirstBadEdge 49 = .ok (.iinc 3 1, 3) := by decide +kernel
theorem dX2_turnFirstBadEdge_52 : decode cX2_turnFirstBadEdge 52 = .ok (.goto (-28), 3) := by decide +kernel
theorem dX2_turnFirstBadEdge_55 : decode cX2_turnFirstBadEdge 55 = .ok (.iinc 1 1, 3) := by decide +kernel
theorem dX2_turnFirstBadEdge_58 : decode cX2_turnFirstBadEdge 58 = .ok (.goto (-56), 3) := by decide +kernel
theorem dX2_turnFirstBadEdge_61 : decode cX2_turnFirstBadEdge 61 = .ok (.iconst 0, 1) := by decide +kernel
theorem dX2_turnFirstBadEdge_62 : decode cX2_turnFirstBadEdge 62 = .ok (.ireturn, 1) := by decide +kernel
set_option maxRecDepth 20000 in
theorem ggX2_countCornerPoints_X1_thereCount : GoodIn wsX2_countCornerPoints wsX1_thereCount := goodIn_r _ [6, 7, 35, 36, 37, 38] (by decide +kernel) (by decide +kernel)
set_option maxRecDepth 20000 in
theorem gX2_countCornerPoints_X1_thereCount : GoodIn wsX2_countCornerPoints (wsV RX2 127 RX1 yX1_thereCount wsX1_thereCount) := goodIn_app (goodIn_of _ (by decide +kernel)) ggX2_countCornerPoints_X1_thereCount
set_option maxRecDepth 20000 in
theorem ggX2_countCornerPoints_X1_numberAt : GoodIn wsX2_countCornerPoints wsX1_numberAt := goodIn_r _ [11, 12, 35, 36, 37, 38] (by decide +kernel) (by decide +kernel)
set_option maxRecDepth 20000 in
theorem gX2_countCornerPoints_X1_numberAt : GoodIn wsX2_countCornerPoints (wsV RX2 131 RX1 yX1_numberAt wsX1_numberAt) := goodIn_app (goodIn_of _ (by decide +kernel)) ggX2_countCornerPoints_X1_numberAt
set_option maxRecDepth 20000 in
theorem ggX2_countCornerPoints_X1_cornerOf : GoodIn wsX2_countCornerPoints wsX1_cornerOf := goodIn_r _ [16, 17, 35, 36, 37, 38] (by decide +kernel) (by decide +kernel)
set_option maxRecDepth 20000 in
theorem gX2_countCornerPoints_X1_cornerOf : GoodIn wsX2_countCornerPoints (wsV RX2 107 RX1 yX1_cornerOf wsX1_cornerOf) := goodIn_app (goodIn_of _ (by decide +kernel)) ggX2_countCornerPoints_X1_cornerOf
set_option maxRecDepth 20000 in
theorem ggX2_countCornerPoints_X2_bitOf : GoodIn wsX2_countCornerPoints wsX2_bitOf := goodIn_r _ [21] (by decide +kernel) (by decide +kernel)
set_option maxRecDepth 20000 in
theorem gX2_countCornerPoints_X2_bitOf : GoodIn wsX2_countCornerPoints (va_wsS RX2 282 yX2_bitOf wsX2_bitOf) := goodIn_app (goodIn_of _ (by decide +kernel)) ggX2_countCornerPoints_X2_bitOf
set_option maxRecDepth 20000 in
theorem ggX2_countCornerPoints_J13_bitCount_95d88 : GoodIn wsX2_countCornerPoints wsJ13_bitCount_95d88 := goodIn_r _ [25, 26, 27, 28] (by decide +kernel) (by decide +kernel)
set_option maxRecDepth 20000 in
theorem gX2_countCornerPoints_J13_bitCount_95d88 : GoodIn wsX2_countCornerPoints (va_wsS RX2 285 yJ13_bitCount_95d88 wsJ13_bitCount_95d88) := goodIn_app (goodIn_of _ (by decide +kernel)) ggX2_countCornerPoints_J13_bitCount_95d88
theorem dX2_countCornerPoints_0 : decode cX2_countCornerPoints 0 = .ok (.lconst 0, 1) := by decide +kernel
theorem dX2_countCornerPoints_1 : decode cX2_countCornerPoints 1 = .ok (.lstore_n 1, 1) := by decide +kernel
theorem dX2_countCornerPoints_2 : decode cX2_countCornerPoints 2 = .ok (.iconst 0, 1) := by decide +kernel
theorem dX2_countCornerPoints_3 : decode cX2_countCornerPoints 3 = .ok (.istore_n 3, 1) := by decide +kernel
theorem dX2_countCornerPoints_4 : decode cX2_countCornerPoints 4 = .ok (.iload_n 3, 1) := by decide +kernel
theorem dX2_countCornerPoints_5 : decode cX2_countCornerPoints 5 = .ok (.aload_n 0, 1) := by decide +kernel
theorem dX2_countCornerPoints_6 : decode cX2_countCornerPoints 6 = .ok (.getfield 19, 3) := by decide +kernel
theorem dX2_countCornerPoints_9 : decode cX2_countCornerPoints 9 = .ok (.invokevirtual 127, 3) := by decide +kernel
theorem dX2_countCornerPoints_12 : decode cX2_countCornerPoints 12 = .ok (.if_icmp .ge 51, 3) := by decide +kernel
theorem dX2_countCornerPoints_15 : decode cX2_countCornerPoints 15 = .ok (.aload_n 0, 1) := by decide +kernel
theorem dX2_countCornerPoints_16 : decode cX2_countCornerPoints 16 = .ok (.getfield 19, 3) := by decide +kernel
theorem dX2_countCornerPoints_19 : decode cX2_countCornerPoints 19 = .ok (.iload_n 3, 1) := by decide +kernel
theorem dX2_countCornerPoints_20 : decode cX2_countCornerPoints 20 = .ok (.invokevirtual 131, 3) := by decide +kernel
theorem dX2_countCornerPoints_23 : decode cX2_countCornerPoints 23 = .ok (.istore 4, 2) := by decide +kernel
theorem dX2_countCornerPoints_25 : decode cX2_countCornerPoints 25 = .ok (.iconst 0, 1) := by decide +kernel
theorem dX2_countCornerPoints_26 : decode cX2_countCornerPoints 26 = .ok (.istore 5, 2) := by decide +kernel
theorem dX2_countCornerPoints_28 : decode cX2_countCornerPoints 28 = .ok (.iload 5, 2) := by decide +kernel
theorem dX2_countCornerPoints_30 : decode cX2_countCornerPoints 30 = .ok (.iconst 3, 1) := by decide +kernel
theorem dX2_countCornerPoints_31 : decode cX2_countCornerPoints 31 = .ok (.if_icmp .ge 26, 3) := by decide +kernel
theorem dX2_countCornerPoints_34 : decode cX2_countCornerPoints 34 = .ok (.lload_n 1, 1) := by decide +kernel
theorem dX2_countCornerPoints_35 : decode cX2_countCornerPoints 35 = .ok (.aload_n 0, 1) := by decide +kernel
theorem dX2_countCornerPoints_36 : decode cX2_countCornerPoints 36 = .ok (.getfield 19, 3) := by decide +kernel
theorem dX2_countCornerPoints_39 : decode cX2_countCornerPoints 39 = .ok (.iload 4, 2) := by decide +kernel
theorem dX2_countCornerPoints_41 : decode cX2_countCornerPoints 41 = .ok (.iload 5, 2) := by decide +kernel
theorem dX2_countCornerPoints_43 : decode cX2_countCornerPoints 43 = .ok (.invokevirtual 107, 3) := by decide +kernel
theorem dX2_countCornerPoints_46 : decode cX2_countCornerPoints 46 = .ok (.invokestatic 282, 3) := by decide +kernel
theorem dX2_countCornerPoints_49 : decode cX2_countCornerPoints 49 = .ok (.lor, 1) := by decide +kernel
theorem dX2_countCornerPoints_50 : decode cX2_countCornerPoints 50 = .ok (.lstore_n 1, 1) := by decide +kernel
theorem dX2_countCornerPoints_51 : decode cX2_countCornerPoints 51 = .ok (.iinc 5 1, 3) := by decide +kernel
theorem dX2_countCornerPoints_54 : decode cX2_countCornerPoints 54 = .ok (.goto (-26), 3) := by decide +kernel
theorem dX2_countCornerPoints_57 : decode cX2_countCornerPoints 57 = .ok (.iinc 3 1, 3) := by decide +kernel
theorem dX2_countCornerPoints_60 : decode cX2_countCornerPoints 60 = .ok (.goto (-56), 3) := by decide +kernel
theorem dX2_countCornerPoints_63 : decode cX2_countCornerPoints 63 = .ok (.lload_n 1, 1) := by decide +kernel
theorem dX2_countCornerPoints_64 : decode cX2_countCornerPoints 64 = .ok (.invokestatic 285, 3) := by decide +kernel
theorem dX2_countCornerPoints_67 : decode cX2_countCornerPoints 67 = .ok (.ireturn, 1) := by decide +kernel
set_option maxRecDepth 20000 in
theorem ggX2_countDifferentEdges_J7_fill_d0a16 : GoodIn wsX2_countDifferentEdges wsJ7_fill_d0a16 := goodIn_r _ [13] (by decide +kernel) (by decide +kernel)
set_option maxRecDepth 20000 in
theorem gX2_countDifferentEdges_J7_fill_d0a16 : GoodIn wsX2_countDifferentEdges (va_wsS RX2 290 yJ7_fill_d0a16 wsJ7_fill_d0a16) := goodIn_app (goodIn_of _ (by decide +kernel)) ggX2_countDifferentEdges_J7_fill_d0a16
set_option maxRecDepth 20000 in
theorem ggX2_countDifferentEdges_X1_thereCount : GoodIn wsX2_countDifferentEdges wsX1_thereCount := goodIn_r _ [18, 19, 47, 48, 49, 50] (by decide +kernel) (by decide +kernel)
set_option maxRecDepth 20000 in
theorem gX2_countDifferentEdges_X1_thereCount : GoodIn wsX2_countDifferentEdges (wsV RX2 127 RX1 yX1_thereCount wsX1_thereCount) := goodIn_app (goodIn_of _ (by decide +kernel)) ggX2_countDifferentEdges_X1_thereCount
set_option maxRecDepth 20000 in
theorem ggX2_countDifferentEdges_X1_numberAt : GoodIn wsX2_countDifferentEdges wsX1_numberAt := goodIn_r _ [23, 24, 47, 48, 49, 50] (by decide +kernel) (by decide +kernel)
set_option maxRecDepth 20000 in
theorem gX2_countDifferentEdges_X1_numberAt : GoodIn wsX2_countDifferentEdges (wsV RX2 131 RX1 yX1_numberAt wsX1_numberAt) := goodIn_app (goodIn_of _ (by decide +kernel)) ggX2_countDifferentEdges_X1_numberAt
set_option maxRecDepth 20000 in
theorem ggX2_countDifferentEdges_X1_cornerOf : GoodIn wsX2_countDifferentEdges wsX1_cornerOf := goodIn_r _ [28, 29, 47, 48, 49, 50] (by decide +kernel) (by decide +kernel)
set_option maxRecDepth 20000 in
theorem gX2_countDifferentEdges_X1_cornerOf : GoodIn wsX2_countDifferentEdges (wsV RX2 107 RX1 yX1_cornerOf wsX1_cornerOf) := goodIn_app (goodIn_of _ (by decide +kernel)) ggX2_countDifferentEdges_X1_cornerOf
set_option maxRecDepth 20000 in
theorem ggX2_countDifferentEdges_X2_bitOf : GoodIn wsX2_countDifferentEdges wsX2_bitOf := goodIn_r _ [33] (by decide +kernel) (by decide +kernel)
set_option maxRecDepth 20000 in
theorem gX2_countDifferentEdges_X2_bitOf : GoodIn wsX2_countDifferentEdges (va_wsS RX2 282 yX2_bitOf wsX2_bitOf) := goodIn_app (goodIn_of _ (by decide +kernel)) ggX2_countDifferentEdges_X2_bitOf
set_option maxRecDepth 20000 in
theorem ggX2_countDifferentEdges_J13_bitCount_95d88 : GoodIn wsX2_countDifferentEdges wsJ13_bitCount_95d88 := goodIn_r _ [37, 38, 39, 40] (by decide +kernel) (by decide +kernel)
set_option maxRecDepth 20000 in
theorem gX2_countDifferentEdges_J13_bitCount_95d88 : GoodIn wsX2_countDifferentEdges (va_wsS RX2 285 yJ13_bitCount_95d88 wsJ13_bitCount_95d88) := goodIn_app (goodIn_of _ (by decide +kernel)) ggX2_countDifferentEdges_J13_bitCount_95d88
theorem dX2_countDifferentEdges_0 : decode cX2_countDifferentEdges 0 = .ok (.aload_n 0, 1) := by decide +kernel
theorem dX2_countDifferentEdges_1 : decode cX2_countDifferentEdges 1 = .ok (.getfield 23, 3) := by decide +kernel
theorem dX2_countDifferentEdges_4 : decode cX2_countDifferentEdges 4 = .ok (.lconst 0, 1) := by decide +kernel
theorem dX2_countDifferentEdges_5 : decode cX2_countDifferentEdges 5 = .ok (.invokestatic 290, 3) := by decide +kernel
theorem dX2_countDifferentEdges_8 : decode cX2_countDifferentEdges 8 = .ok (.iconst 0, 1) := by decide +kernel
theorem dX2_countDifferentEdges_9 : decode cX2_countDifferentEdges 9 = .ok (.istore_n 1, 1) := by decide +kernel
theorem dX2_countDifferentEdges_10 : decode cX2_countDifferentEdges 10 = .ok (.iload_n 1, 1) := by decide +kernel
theorem dX2_countDifferentEdges_11 : decode cX2_countDifferentEdges 11 = .ok (.aload_n 0, 1) := by decide +kernel
theorem dX2_countDifferentEdges_12 : decode cX2_countDifferentEdges 12 = .ok (.getfield 19, 3) := by decide +kernel
theorem dX2_countDifferentEdges_15 : decode cX2_countDifferentEdges 15 = .ok (.invokevirtual 127, 3) := by decide +kernel
theorem dX2_countDifferentEdges_18 : decode cX2_countDifferentEdges 18 = .ok (.if_icmp .ge 80, 3) := by decide +kernel
theorem dX2_countDifferentEdges_21 : decode cX2_countDifferentEdges 21 = .ok (.aload_n 0, 1) := by decide +kernel
theorem dX2_countDifferentEdges_22 : decode cX2_countDifferentEdges 22 = .ok (.getfield 19, 3) := by decide +kernel
theorem dX2_countDifferentEdges_25 : decode cX2_countDifferentEdges 25 = .ok (.iload_n 1, 1) := by decide +kernel
theorem dX2_countDifferentEdges_26 : decode cX2_countDifferentEdges 26 = .ok (.invokevirtual 131, 3) := by decide +kernel
theorem dX2_countDifferentEdges_29 : decode cX2_countDifferentEdges 29 = .ok (.istore_n 2, 1) := by decide +kernel
theorem dX2_countDifferentEdges_30 : decode cX2_countDifferentEdges 30 = .ok (.iconst 0, 1) := by decide +kernel
theorem dX2_countDifferentEdges_31 : decode cX2_countDifferentEdges 31 = .ok (.istore_n 3, 1) := by decide +kernel
theorem dX2_countDifferentEdges_32 : decode cX2_countDifferentEdges 32 = .ok (.iload_n 3, 1) := by decide +kernel
theorem dX2_countDifferentEdges_33 : decode cX2_countDifferentEdges 33 = .ok (.iconst 3, 1) := by decide +kernel
theorem dX2_countDifferentEdges_34 : decode cX2_countDifferentEdges 34 = .ok (.if_icmp .ge 58, 3) := by decide +kernel
theorem dX2_countDifferentEdges_37 : decode cX2_countDifferentEdges 37 = .ok (.aload_n 0, 1) := by decide +kernel
theorem dX2_countDifferentEdges_38 : decode cX2_countDifferentEdges 38 = .ok (.getfield 19, 3) := by decide +kernel
theorem dX2_countDifferentEdges_41 : decode cX2_countDifferentEdges 41 = .ok (.iload_n 2, 1) := by decide +kernel
theorem dX2_countDifferentEdges_42 : decode cX2_countDifferentEdges 42 = .ok (.iload_n 3, 1) := by decide +kernel
theorem dX2_countDifferentEdges_43 : decode cX2_countDifferentEdges 43 = .ok (.invokevirtual 107, 3) := by decide +kernel
theorem dX2_countDifferentEdges_46 : decode cX2_countDifferentEdges 46 = .ok (.istore 4, 2) := by decide +kernel
theorem dX2_countDifferentEdges_48 : decode cX2_countDifferentEdges 48 = .ok (.aload_n 0, 1) := by decide +kernel
theorem dX2_countDifferentEdges_49 : decode cX2_countDifferentEdges 49 = .ok (.getfield 19, 3) := by decide +kernel
theorem dX2_countDifferentEdges_52 : decode cX2_countDifferentEdges 52 = .ok (.iload_n 2, 1) := by decide +kernel
theorem dX2_countDifferentEdges_53 : decode cX2_countDifferentEdges 53 = .ok (.iload_n 3, 1) := by decide +kernel
theorem dX2_countDifferentEdges_54 : decode cX2_countDifferentEdges 54 = .ok (.iconst 1, 1) := by decide +kernel
theorem dX2_countDifferentEdges_55 : decode cX2_countDifferentEdges 55 = .ok (.iadd, 1) := by decide +kernel
theorem dX2_countDifferentEdges_56 : decode cX2_countDifferentEdges 56 = .ok (.invokevirtual 107, 3) := by decide +kernel
theorem dX2_countDifferentEdges_59 : decode cX2_countDifferentEdges 59 = .ok (.istore 5, 2) := by decide +kernel
theorem dX2_countDifferentEdges_61 : decode cX2_countDifferentEdges 61 = .ok (.aload_n 0, 1) := by decide +kernel
theorem dX2_countDifferentEdges_62 : decode cX2_countDifferentEdges 62 = .ok (.getfield 23, 3) := by decide +kernel
theorem dX2_countDifferentEdges_65 : decode cX2_countDifferentEdges 65 = .ok (.iload 4, 2) := by decide +kernel
theorem dX2_countDifferentEdges_67 : decode cX2_countDifferentEdges 67 = .ok (.iload 5, 2) := by decide +kernel
theorem dX2_countDifferentEdges_69 : decode cX2_countDifferentEdges 69 = .ok (.invokestatic 247, 3) := by decide +kernel
theorem dX2_countDifferentEdges_72 : decode cX2_countDifferentEdges 72 = .ok (.dup2, 1) := by decide +kernel
theorem dX2_countDifferentEdges_73 : decode cX2_countDifferentEdges 73 = .ok (.laload, 1) := by decide +kernel
theorem dX2_countDifferentEdges_74 : decode cX2_countDifferentEdges 74 = .ok (.iload 4, 2) := by decide +kernel
theorem dX2_countDifferentEdges_76 : decode cX2_countDifferentEdges 76 = .ok (.iload 5, 2) := by decide +kernel
theorem dX2_countDifferentEdges_78 : decode cX2_countDifferentEdges 78 = .ok (.invokestatic 239, 3) := by decide +kernel
theorem dX2_countDifferentEdges_81 : decode cX2_countDifferentEdges 81 = .ok (.invokestatic 282, 3) := by decide +kernel
theorem dX2_countDifferentEdges_84 : decode cX2_countDifferentEdges 84 = .ok (.lor, 1) := by decide +kernel
theorem dX2_countDifferentEdges_85 : decode cX2_countDifferentEdges 85 = .ok (.lastore, 1) := by decide +kernel
theorem dX2_countDifferentEdges_86 : decode cX2_countDifferentEdges 86 = .ok (.iinc 3 1, 3) := by decide +kernel
theorem dX2_countDifferentEdges_89 : decode cX2_countDifferentEdges 89 = .ok (.goto (-57), 3) := by decide +kernel
theorem dX2_countDifferentEdges_92 : decode cX2_countDifferentEdges 92 = .ok (.iinc 1 1, 3) := by decide +kernel
theorem dX2_countDifferentEdges_95 : decode cX2_countDifferentEdges 95 = .ok (.goto (-85), 3) := by decide +kernel
theorem dX2_countDifferentEdges_98 : decode cX2_countDifferentEdges 98 = .ok (.iconst 0, 1) := by decide +kernel
theorem dX2_countDifferentEdges_99 : decode cX2_countDifferentEdges 99 = .ok (.istore_n 1, 1) := by decide +kernel
theorem dX2_countDifferentEdges_100 : decode cX2_countDifferentEdges 100 = .ok (.iconst 0, 1) := by decide +kernel
theorem dX2_countDifferentEdges_101 : decode cX2_countDifferentEdges 101 = .ok (.istore_n 2, 1) := by decide +kernel
theorem dX2_countDifferentEdges_102 : decode cX2_countDifferentEdges 102 = .ok (.iload_n 2, 1) := by decide +kernel
theorem dX2_countDifferentEdges_103 : decode cX2_countDifferentEdges 103 = .ok (.bipush 60, 2) := by decide +kernel
theorem dX2_countDifferentEdges_105 : decode cX2_countDifferentEdges 105 = .ok (.if_icmp .ge 21, 3) := by decide +kernel
theorem dX2_countDifferentEdges_108 : decode cX2_countDifferentEdges 108 = .ok (.iload_n 1, 1) := by decide +kernel
theorem dX2_countDifferentEdges_109 : decode cX2_countDifferentEdges 109 = .ok (.aload_n 0, 1) := by decide +kernel
theorem dX2_countDifferentEdges_110 : decode cX2_countDifferentEdges 110 = .ok (.getfield 23, 3) := by decide +kernel
theorem dX2_countDifferentEdges_113 : decode cX2_countDifferentEdges 113 = .ok (.iload_n 2, 1) := by decide +kernel
theorem dX2_countDifferentEdges_114 : decode cX2_countDifferentEdges 114 = .ok (.laload, 1) := by decide +kernel
theorem dX2_countDifferentEdges_115 : decode cX2_countDifferentEdges 115 = .ok (.invokestatic 285, 3) := by decide +kernel
theorem dX2_countDifferentEdges_118 : decode cX2_countDifferentEdges 118 = .ok (.iadd, 1) := by decide +kernel
theorem dX2_countDifferentEdges_119 : decode cX2_countDifferentEdges 119 = .ok (.istore_n 1, 1) := by decide +kernel
theorem dX2_countDifferentEdges_120 : decode cX2_countDifferentEdges 120 = .ok (.iinc 2 1, 3) := by decide +kernel
theorem dX2_countDifferentEdges_123 : decode cX2_countDifferentEdges 123 = .ok (.goto (-21), 3) := by decide +kernel
theorem dX2_countDifferentEdges_126 : decode cX2_countDifferentEdges 126 = .ok (.iload_n 1, 1) := by decide +kernel
theorem dX2_countDifferentEdges_127 : decode cX2_countDifferentEdges 127 = .ok (.ireturn, 1) := by decide +kernel
theorem dX2_bitOf_0 : decode cX2_bitOf 0 = .ok (.lconst 1, 1) := by decide +kernel
theorem dX2_bitOf_1 : decode cX2_bitOf 1 = .ok (.iload_n 0, 1) := by decide +kernel
theorem dX2_bitOf_2 : decode cX2_bitOf 2 = .ok (.lshl, 1) := by decide +kernel
theorem dX2_bitOf_3 : decode cX2_bitOf 3 = .ok (.lreturn, 1) := by decide +kernel
set_option maxRecDepth 20000 in
theorem ggX2_countLonelyEdges_X1_thereCount : GoodIn wsX2_countLonelyEdges wsX1_thereCount := goodIn_r _ [6, 7, 32, 33, 34, 35] (by decide +kernel) (by decide +kernel)
set_option maxRecDepth 20000 in
theorem gX2_countLonelyEdges_X1_thereCount : GoodIn wsX2_countLonelyEdges (wsV RX2 127 RX1 yX1_thereCount wsX1_thereCount) := goodIn_app (goodIn_of _ (by decide +kernel)) ggX2_countLonelyEdges_X1_thereCount
set_option maxRecDepth 20000 in
theorem ggX2_countLonelyEdges_X1_numberAt : GoodIn wsX2_countLonelyEdges wsX1_numberAt := goodIn_r _ [11, 12, 32, 33, 34, 35] (by decide +kernel) (by decide +kernel)
set_option maxRecDepth 20000 in
theorem gX2_countLonelyEdges_X1_numberAt : GoodIn wsX2_countLonelyEdges (wsV RX2 131 RX1 yX1_numberAt wsX1_numberAt) := goodIn_app (goodIn_of _ (by decide +kernel)) ggX2_countLonelyEdges_X1_numberAt
set_option maxRecDepth 20000 in
theorem ggX2_countLonelyEdges_X1_neighbour : GoodIn wsX2_countLonelyEdges wsX1_neighbour := goodIn_r _ [16, 7, 12, 17, 18, 19, 5, 20, 21, 22, 23, 24, 25, 32, 33, 34, 35] (by decide +kernel) (by decide +kernel)
set_option maxRecDepth 20000 in
theorem gX2_countLonelyEdges_X1_neighbour : GoodIn wsX2_countLonelyEdges (wsV RX2 164 RX1 yX1_neighbour wsX1_neighbour) := goodIn_app (goodIn_of _ (by decide +kernel)) ggX2_countLonelyEdges_X1_neighbour
theorem dX2_countLonelyEdges_0 : decode cX2_countLonelyEdges 0 = .ok (.iconst 0, 1) := by decide +kernel
theorem dX2_countLonelyEdges_1 : decode cX2_countLonelyEdges 1 = .ok (.istore_n 1, 1) := by decide +kernel
theorem dX2_countLonelyEdges_2 : decode cX2_countLonelyEdges 2 = .ok (.iconst 0, 1) := by decide +kernel
theorem dX2_countLonelyEdges_3 : decode cX2_countLonelyEdges 3 = .ok (.istore_n 2, 1) := by decide +kernel
theorem dX2_countLonelyEdges_4 : decode cX2_countLonelyEdges 4 = .ok (.iload_n 2, 1) := by decide +kernel
theorem dX2_countLonelyEdges_5 : decode cX2_countLonelyEdges 5 = .ok (.aload_n 0, 1) := by decide +kernel
theorem dX2_countLonelyEdges_6 : decode cX2_countLonelyEdges 6 = .ok (.getfield 19, 3) := by decide +kernel
theorem dX2_countLonelyEdges_9 : decode cX2_countLonelyEdges 9 = .ok (.invokevirtual 127, 3) := by decide +kernel
theorem dX2_countLonelyEdges_12 : decode cX2_countLonelyEdges 12 = .ok (.if_icmp .ge 45, 3) := by decide +kernel
theorem dX2_countLonelyEdges_15 : decode cX2_countLonelyEdges 15 = .ok (.iconst 0, 1) := by decide +kernel
theorem dX2_countLonelyEdges_16 : decode cX2_countLonelyEdges 16 = .ok (.istore_n 3, 1) := by decide +kernel
theorem dX2_countLonelyEdges_17 : decode cX2_countLonelyEdges 17 = .ok (.iload_n 3, 1) := by decide +kernel
theorem dX2_countLonelyEdges_18 : decode cX2_countLonelyEdges 18 = .ok (.iconst 3, 1) := by decide +kernel
theorem dX2_countLonelyEdges_19 : decode cX2_countLonelyEdges 19 = .ok (.if_icmp .ge 32, 3) := by decide +kernel
theorem dX2_countLonelyEdges_22 : decode cX2_countLonelyEdges 22 = .ok (.aload_n 0, 1) := by decide +kernel
theorem dX2_countLonelyEdges_23 : decode cX2_countLonelyEdges 23 = .ok (.getfield 19, 3) := by decide +kernel
theorem dX2_countLonelyEdges_26 : decode cX2_countLonelyEdges 26 = .ok (.aload_n 0, 1) := by decide +kernel
theorem dX2_countLonelyEdges_27 : decode cX2_countLonelyEdges 27 = .ok (.getfield 19, 3) := by decide +kernel
theorem dX2_countLonelyEdges_30 : decode cX2_countLonelyEdges 30 = .ok (.iload_n 2, 1) := by decide +kernel
theorem dX2_countLonelyEdges_31 : decode cX2_countLonelyEdges 31 = .ok (.invokevirtual 131, 3) := by decide +kernel
theorem dX2_countLonelyEdges_34 : decode cX2_countLonelyEdges 34 = .ok (.iload_n 3, 1) := by decide +kernel
theorem dX2_countLonelyEdges_35 : decode cX2_countLonelyEdges 35 = .ok (.invokevirtual 164, 3) := by decide +kernel
theorem dX2_countLonelyEdges_38 : decode cX2_countLonelyEdges 38 = .ok (.iconst (-1), 1) := by decide +kernel
theorem dX2_countLonelyEdges_39 : decode cX2_countLonelyEdges 39 = .ok (.if_icmp .ne 6, 3) := by decide +kernel
theorem dX2_countLonelyEdges_42 : decode cX2_countLonelyEdges 42 = .ok (.iinc 1 1, 3) := by decide +kernel
theorem dX2_countLonelyEdges_45 : decode cX2_countLonelyEdges 45 = .ok (.iinc 3 1, 3) := by decide +kernel
theorem dX2_countLonelyEdges_48 : decode cX2_countLonelyEdges 48 = .ok (.goto (-31), 3) := by decide +kernel
theorem dX2_countLonelyEdges_51 : decode cX2_countLonelyEdges 51 = .ok (.iinc 2 1, 3) := by decide +kernel
theorem dX2_countLonelyEdges_54 : decode cX2_countLonelyEdges 54 = .ok (.goto (-50), 3) := by decide +kernel
theorem dX2_countLonelyEdges_57 : decode cX2_countLonelyEdges 57 = .ok (.iload_n 1, 1) := by decide +kernel
theorem dX2_countLonelyEdges_58 : decode cX2_countLonelyEdges 58 = .ok (.ireturn, 1) := by decide +kernel
set_option maxRecDepth 20000 in
theorem ggX2_countBadEdges_X1_thereCount : GoodIn wsX2_countBadEdges wsX1_thereCount := goodIn_r _ [6, 7, 50, 51, 52, 53] (by decide +kernel) (by decide +kernel)
set_option maxRecDepth 20000 in
theorem gX2_countBadEdges_X1_thereCount : GoodIn wsX2_countBadEdges (wsV RX2 127 RX1 yX1_thereCount wsX1_thereCount) := goodIn_app (goodIn_of _ (by decide +kernel)) ggX2_countBadEdges_X1_thereCount
set_option maxRecDepth 20000 in
theorem ggX2_countBadEdges_X1_numberAt : GoodIn wsX2_countBadEdges wsX1_numberAt := goodIn_r _ [11, 12, 50, 51, 52, 53] (by decide +kernel) (by decide +kernel)
set_option maxRecDepth 20000 in
theorem gX2_countBadEdges_X1_numberAt : GoodIn wsX2_countBadEdges (wsV RX2 131 RX1 yX1_numberAt wsX1_numberAt) := goodIn_app (goodIn_of _ (by decide +kernel)) ggX2_countBadEdges_X1_numberAt
set_option maxRecDepth 20000 in
theorem ggX2_countBadEdges_X2_isGoodEdge : GoodIn wsX2_countBadEdges wsX2_isGoodEdge := goodIn_r _ [17, 1, 18, 19, 20, 21, 5, 22, 7, 12, 23, 24, 25, 26, 27, 28, 29, 30, 31, 32, 33, 34, 35, 36, 37, 38, 39, 40, 41, 42, 43, 44, 45, 46, 47, 48, 49, 50, 51, 52, 53, 54, 55, 56] (by decide +kernel) (by decide +kernel)
set_option maxRecDepth 20000 in
theorem gX2_countBadEdges_X2_isGoodEdge : GoodIn wsX2_countBadEdges (wsV RX2 167 RX2 yX2_isGoodEdge wsX2_isGoodEdge) := goodIn_app (goodIn_of _ (by decide +kernel)) ggX2_countBadEdges_X2_isGoodEdge
theorem dX2_countBadEdges_0 : decode cX2_countBadEdges 0 = .ok (.iconst 0, 1) := by decide +kernel
theorem dX2_countBadEdges_1 : decode cX2_countBadEdges 1 = .ok (.istore_n 1, 1) := by decide +kernel
theorem dX2_countBadEdges_2 : decode cX2_countBadEdges 2 = .ok (.iconst 0, 1) := by decide +kernel
theorem dX2_countBadEdges_3 : decode cX2_countBadEdges 3 = .ok (.istore_n 2, 1) := by decide +kernel
theorem dX2_countBadEdges_4 : decode cX2_countBadEdges 4 = .ok (.iload_n 2, 1) := by decide +kernel
theorem dX2_countBadEdges_5 : decode cX2_countBadEdges 5 = .ok (.aload_n 0, 1) := by decide +kernel
theorem dX2_countBadEdges_6 : decode cX2_countBadEdges 6 = .ok (.getfield 19, 3) := by decide +kernel
theorem dX2_countBadEdges_9 : decode cX2_countBadEdges 9 = .ok (.invokevirtual 127, 3) := by decide +kernel
theorem dX2_countBadEdges_12 : decode cX2_countBadEdges 12 = .ok (.if_icmp .ge 41, 3) := by decide +kernel
theorem dX2_countBadEdges_15 : decode cX2_countBadEdges 15 = .ok (.iconst 0, 1) := by decide +kernel
theorem dX2_countBadEdges_16 : decode cX2_countBadEdges 16 = .ok (.istore_n 3, 1) := by decide +kernel
theorem dX2_countBadEdges_17 : decode cX2_countBadEdges 17 = .ok (.iload_n 3, 1) := by decide +kernel
theorem dX2_countBadEdges_18 : decode cX2_countBadEdges 18 = .ok (.iconst 3, 1) := by decide +kernel
theorem dX2_countBadEdges_19 : decode cX2_countBadEdges 19 = .ok (.if_icmp .ge 28, 3) := by decide +kernel
theorem dX2_countBadEdges_22 : decode cX2_countBadEdges 22 = .ok (.aload_n 0, 1) := by decide +kernel
theorem dX2_countBadEdges_23 : decode cX2_countBadEdges 23 = .ok (.aload_n 0, 1) := by decide +kernel
theorem dX2_countBadEdges_24 : decode cX2_countBadEdges 24 = .ok (.getfield 19, 3) := by decide +kernel
theorem dX2_countBadEdges_27 : decode cX2_countBadEdges 27 = .ok (.iload_n 2, 1) := by decide +kernel
theorem dX2_countBadEdges_28 : decode cX2_countBadEdges 28 = .ok (.invokevirtual 131, 3) := by decide +kernel
theorem dX2_countBadEdges_31 : decode cX2_countBadEdges 31 = .ok (.iload_n 3, 1) := by decide +kernel
theorem dX2_countBadEdges_32 : decode cX2_countBadEdges 32 = .ok (.invokevirtual 167, 3) := by decide +kernel
theorem dX2_countBadEdges_35 : decode cX2_countBadEdges 35 = .ok (.ifCond .ne 6, 3) := by decide +kernel
theorem dX2_countBadEdges_38 : decode cX2_countBadEdges 38 = .ok (.iinc 1 1, 3) := by decide +kernel
theorem dX2_countBadEdges_41 : decode cX2_countBadEdges 41 = .ok (.iinc 3 1, 3) := by decide +kernel
theorem dX2_countBadEdges_44 : decode cX2_countBadEdges 44 = .ok (.goto (-27), 3) := by decide +kernel
theorem dX2_countBadEdges_47 : decode cX2_countBadEdges 47 = .ok (.iinc 2 1, 3) := by decide +kernel
theorem dX2_countBadEdges_50 : decode cX2_countBadEdges 50 = .ok (.goto (-46), 3) := by decide +kernel
theorem dX2_countBadEdges_53 : decode cX2_countBadEdges 53 = .ok (.iload_n 1, 1) := by decide +kernel
theorem dX2_countBadEdges_54 : decode cX2_countBadEdges 54 = .ok (.ireturn, 1) := by decide +kernel
set_option maxRecDepth 20000 in
theorem ggX2_countPieces_X1_thereCount : GoodIn wsX2_countPieces wsX1_thereCount := goodIn_r _ [7, 8, 38, 39, 40, 41] (by decide +kernel) (by decide +kernel)
set_option maxRecDepth 20000 in
theorem gX2_countPieces_X1_thereCount : GoodIn wsX2_countPieces (wsV RX2 127 RX1 yX1_thereCount wsX1_thereCount) := goodIn_app (goodIn_of _ (by decide +kernel)) ggX2_countPieces_X1_thereCount
set_option maxRecDepth 20000 in
theorem ggX2_countPieces_X1_numberAt : GoodIn wsX2_countPieces wsX1_numberAt := goodIn_r _ [12, 13, 38, 39, 40, 41] (by decide +kernel) (by decide +kernel)
set_option maxRecDepth 20000 in
theorem gX2_countPieces_X1_numberAt : GoodIn wsX2_countPieces (wsV RX2 131 RX1 yX1_numberAt wsX1_numberAt) := goodIn_app (goodIn_of _ (by decide +kernel)) ggX2_countPieces_X1_numberAt
set_option maxRecDepth 20000 in
theorem ggX2_countPieces_X1_neighbour : GoodIn wsX2_countPieces wsX1_neighbour := goodIn_r _ [17, 8, 13, 18, 19, 20, 6, 21, 22, 23, 24, 25, 26, 38, 39, 40, 41] (by decide +kernel) (by decide +kernel)
set_option maxRecDepth 20000 in
theorem gX2_countPieces_X1_neighbour : GoodIn wsX2_countPieces (wsV RX2 164 RX1 yX1_neighbour wsX1_neighbour) := goodIn_app (goodIn_of _ (by decide +kernel)) ggX2_countPieces_X1_neighbour
set_option maxRecDepth 20000 in
theorem ggX2_countPieces_X2_renamePiece : GoodIn wsX2_countPieces wsX2_renamePiece := goodIn_r _ [31, 1, 2, 3, 4, 5, 6, 7, 8, 9, 10, 11, 12, 13, 32, 33, 34, 35, 36, 37, 38, 39, 40, 41] (by decide +kernel) (by decide +kernel)
set_option maxRecDepth 20000 in
theorem gX2_countPieces_X2_renamePiece : GoodIn wsX2_countPieces (wsV RX2 296 RX2 yX2_renamePiece wsX2_renamePiece) := goodIn_app (goodIn_of _ (by decide +kernel)) ggX2_countPieces_X2_renamePiece
theorem dX2_countPieces_0 : decode cX2_countPieces 0 = .ok (.iconst 0, 1) := by decide +kernel
theorem dX2_countPieces_1 : decode cX2_countPieces 1 = .ok (.istore_n 1, 1) := by decide +kernel
theorem dX2_countPieces_2 : decode cX2_countPieces 2 = .ok (.iload_n 1, 1) := by decide +kernel
theorem dX2_countPieces_3 : decode cX2_countPieces 3 = .ok (.aload_n 0, 1) := by decide +kernel
theorem dX2_countPieces_4 : decode cX2_countPieces 4 = .ok (.getfield 19, 3) := by decide +kernel
theorem dX2_countPieces_7 : decode cX2_countPieces 7 = .ok (.invokevirtual 127, 3) := by decide +kernel
theorem dX2_countPieces_10 : decode cX2_countPieces 10 = .ok (.if_icmp .ge 25, 3) := by decide +kernel
theorem dX2_countPieces_13 : decode cX2_countPieces 13 = .ok (.aload_n 0, 1) := by decide +kernel
theorem dX2_countPieces_14 : decode cX2_countPieces 14 = .ok (.getfield 19, 3) := by decide +kernel
theorem dX2_countPieces_17 : decode cX2_countPieces 17 = .ok (.iload_n 1, 1) := by decide +kernel
theorem dX2_countPieces_18 : decode cX2_countPieces 18 = .ok (.invokevirtual 131, 3) := by decide +kernel
theorem dX2_countPieces_21 : decode cX2_countPieces 21 = .ok (.istore_n 2, 1) := by decide +kernel
theorem dX2_countPieces_22 : decode cX2_countPieces 22 = .ok (.aload_n 0, 1) := by decide +kernel
theorem dX2_countPieces_23 : decode cX2_countPieces 23 = .ok (.getfield 27, 3) := by decide +kernel
theorem dX2_countPieces_26 : decode cX2_countPieces 26 = .ok (.iload_n 2, 1) := by decide +kernel
theorem dX2_countPieces_27 : decode cX2_countPieces 27 = .ok (.iload_n 2, 1) := by decide +kernel
theorem dX2_countPieces_28 : decode cX2_countPieces 28 = .ok (.iastore, 1) := by decide +kernel
theorem dX2_countPieces_29 : decode cX2_countPieces 29 = .ok (.iinc 1 1, 3) := by decide +kernel
theorem dX2_countPieces_32 : decode cX2_countPieces 32 = .ok (.goto (-30), 3) := by decide +kernel
theorem dX2_countPieces_35 : decode cX2_countPieces 35 = .ok (.aload_n 0, 1) := by decide +kernel
theorem dX2_countPieces_36 : decode cX2_countPieces 36 = .ok (.getfield 19, 3) := by decide +kernel
theorem dX2_countPieces_39 : decode cX2_countPieces 39 = .ok (.invokevirtual 127, 3) := by decide +kernel
theorem dX2_countPieces_42 : decode cX2_countPieces 42 = .ok (.istore_n 1, 1) := by decide +kernel
theorem dX2_countPieces_43 : decode cX2_countPieces 43 = .ok (.iconst 0, 1) := by decide +kernel
theorem dX2_countPieces_44 : decode cX2_countPieces 44 = .ok (.istore_n 2, 1) := by decide +kernel
theorem dX2_countPieces_45 : decode cX2_countPieces 45 = .ok (.iload_n 2, 1) := by decide +kernel
theorem dX2_countPieces_46 : decode cX2_countPieces 46 = .ok (.aload_n 0, 1) := by decide +kernel
theorem dX2_countPieces_47 : decode cX2_countPieces 47 = .ok (.getfield 19, 3) := by decide +kernel
theorem dX2_countPieces_50 : decode cX2_countPieces 50 = .ok (.invokevirtual 127, 3) := by decide +kernel
theorem dX2_countPieces_53 : decode cX2_countPieces 53 = .ok (.if_icmp .ge 87, 3) := by decide +kernel
theorem dX2_countPieces_56 : decode cX2_countPieces 56 = .ok (.aload_n 0, 1) := by decide +kernel
theorem dX2_countPieces_57 : decode cX2_countPieces 57 = .ok (.getfield 19, 3) := by decide +kernel
theorem dX2_countPieces_60 : decode cX2_countPieces 60 = .ok (.iload_n 2, 1) := by decide +kernel
theorem dX2_countPieces_61 : decode cX2_countPieces 61 = .ok (.invokevirtual 131, 3) := by decide +kernel
theorem dX2_countPieces_64 : decode cX2_countPieces 64 = .ok (.istore_n 3, 1) := by decide +kernel
theorem dX2_countPieces_65 : decode cX2_countPieces 65 = .ok (.iconst 0, 1) := by decide +kernel
theorem dX2_countPieces_66 : decode cX2_countPieces 66 = .ok (.istore 4, 2) := by decide +kernel
theorem dX2_countPieces_68 : decode cX2_countPieces 68 = .ok (.iload 4, 2) := by decide +kernel
theorem dX2_countPieces_70 : decode cX2_countPieces 70 = .ok (.iconst 3, 1) := by decide +kernel
theorem dX2_countPieces_71 : decode cX2_countPieces 71 = .ok (.if_icmp .ge 63, 3) := by decide +kernel
theorem dX2_countPieces_74 : decode cX2_countPieces 74 = .ok (.aload_n 0, 1) := by decide +kernel
theorem dX2_countPieces_75 : decode cX2_countPieces 75 = .ok (.getfield 19, 3) := by decide +kernel
theorem dX2_countPieces_78 : decode cX2_countPieces 78 = .ok (.iload_n 3, 1) := by decide +kernel
theorem dX2_countPieces_79 : decode cX2_countPieces 79 = .ok (.iload 4, 2) := by decide +kernel
theorem dX2_countPieces_81 : decode cX2_countPieces 81 = .ok (.invokevirtual 164, 3) := by decide +kernel
theorem dX2_countPieces_84 : decode cX2_countPieces 84 = .ok (.istore 5, 2) := by decide +kernel
theorem dX2_countPieces_86 : decode cX2_countPieces 86 = .ok (.iload 5, 2) := by decide +kernel
theorem dX2_countPieces_88 : decode cX2_countPieces 88 = .ok (.iconst (-1), 1) := by decide +kernel
theorem dX2_countPieces_89 : decode cX2_countPieces 89 = .ok (.if_icmp .eq 39, 3) := by decide +kernel
theorem dX2_countPieces_92 : decode cX2_countPieces 92 = .ok (.aload_n 0, 1) := by decide +kernel
theorem dX2_countPieces_93 : decode cX2_countPieces 93 = .ok (.getfield 27, 3) := by decide +kernel
theorem dX2_countPieces_96 : decode cX2_countPieces 96 = .ok (.iload 5, 2) := by decide +kernel
theorem dX2_countPieces_98 : decode cX2_countPieces 98 = .ok (.iaload, 1) := by decide +kernel
theorem dX2_countPieces_99 : decode cX2_countPieces 99 = .ok (.aload_n 0, 1) := by decide +kernel
theorem dX2_countPieces_100 : decode cX2_countPieces 100 = .ok (.getfield 27, 3) := by decide +kernel
theorem dX2_countPieces_103 : decode cX2_countPieces 103 = .ok (.iload_n 3, 1) := by decide +kernel
theorem dX2_countPieces_104 : decode cX2_countPieces 104 = .ok (.iaload, 1) := by decide +kernel
theorem dX2_countPieces_105 : decode cX2_countPieces 105 = .ok (.if_icmp .eq 23, 3) := by decide +kernel
theorem dX2_countPieces_108 : decode cX2_countPieces 108 = .ok (.aload_n 0, 1) := by decide +kernel
theorem dX2_countPieces_109 : decode cX2_countPieces 109 = .ok (.aload_n 0, 1) := by decide +kernel
theorem dX2_countPieces_110 : decode cX2_countPieces 110 = .ok (.getfield 27, 3) := by decide +kernel
theorem dX2_countPieces_113 : decode cX2_countPieces 113 = .ok (.iload 5, 2) := by decide +kernel
theorem dX2_countPieces_115 : decode cX2_countPieces 115 = .ok (.iaload, 1) := by decide +kernel
theorem dX2_countPieces_116 : decode cX2_countPieces 116 = .ok (.aload_n 0, 1) := by decide +kernel
theorem dX2_countPieces_117 : decode cX2_countPieces 117 = .ok (.getfield 27, 3) := by decide +kernel
theorem dX2_countPieces_120 : decode cX2_countPieces 120 = .ok (.iload_n 3, 1) := by decide +kernel
theorem dX2_countPieces_121 : decode cX2_countPieces 121 = .ok (.iaload, 1) := by decide +kernel
theorem dX2_countPieces_122 : decode cX2_countPieces 122 = .ok (.invokevirtual 296, 3) := by decide +kernel
theorem dX2_countPieces_125 : decode cX2_countPieces 125 = .ok (.iinc 1 (-1), 3) := by decide +kernel
theorem dX2_countPieces_128 : decode cX2_countPieces 128 = .ok (.iinc 4 1, 3) := by decide +kernel
theorem dX2_countPieces_131 : decode cX2_countPieces 131 = .ok (.goto (-63), 3) := by decide +kernel
theorem dX2_countPieces_134 : decode cX2_countPieces 134 = .ok (.iinc 2 1, 3) := by decide +kernel
theorem dX2_countPieces_137 : decode cX2_countPieces 137 = .ok (.goto (-92), 3) := by decide +kernel
theorem dX2_countPieces_140 : decode cX2_countPieces 140 = .ok (.iload_n 1, 1) := by decide +kernel
theorem dX2_countPieces_141 : decode cX2_countPieces 141 = .ok (.ireturn, 1) := by decide +kernel
set_option maxRecDepth 20000 in
theorem ggX2_renamePiece_X1_thereCount : GoodIn wsX2_renamePiece wsX1_thereCount := goodIn_r _ [7, 8, 20, 21, 22, 23] (by decide +kernel) (by decide +kernel)
set_option maxRecDepth 20000 in
theorem gX2_renamePiece_X1_thereCount : GoodIn wsX2_renamePiece (wsV RX2 127 RX1 yX1_thereCount wsX1_thereCount) := goodIn_app (goodIn_of _ (by decide +kernel)) ggX2_renamePiece_X1_thereCount
set_option maxRecDepth 20000 in
theorem ggX2_renamePiece_X1_numberAt : GoodIn wsX2_renamePiece wsX1_numberAt := goodIn_r _ [12, 13, 20, 21, 22, 23] (by decide +kernel) (by decide +kernel)
set_option maxRecDepth 20000 in
theorem gX2_renamePiece_X1_numberAt : GoodIn wsX2_renamePiece (wsV RX2 131 RX1 yX1_numberAt wsX1_numberAt) := goodIn_app (goodIn_of _ (by decide +kernel)) ggX2_renamePiece_X1_numberAt
theorem dX2_renamePiece_0 : decode cX2_renamePiece 0 = .ok (.iconst 0, 1) := by decide +kernel
theorem dX2_renamePiece_1 : decode cX2_renamePiece 1 = .ok (.istore_n 3, 1) := by decide +kernel
theorem dX2_renamePiece_2 : decode cX2_renamePiece 2 = .ok (.iload_n 3, 1) := by decide +kernel
theorem dX2_renamePiece_3 : decode cX2_renamePiece 3 = .ok (.aload_n 0, 1) := by decide +kernel
theorem dX2_renamePiece_4 : decode cX2_renamePiece 4 = .ok (.getfield 19, 3) := by decide +kernel
theorem dX2_renamePiece_7 : decode cX2_renamePiece 7 = .ok (.invokevirtual 127, 3) := by decide +kernel
theorem dX2_renamePiece_10 : decode cX2_renamePiece 10 = .ok (.if_icmp .ge 38, 3) := by decide +kernel
theorem dX2_renamePiece_13 : decode cX2_renamePiece 13 = .ok (.aload_n 0, 1) := by decide +kernel
theorem dX2_renamePiece_14 : decode cX2_renamePiece 14 = .ok (.getfield 19, 3) := by decide +kernel
theorem dX2_renamePiece_17 : decode cX2_renamePiece 17 = .ok (.iload_n 3, 1) := by decide +kernel
theorem dX2_renamePiece_18 : decode cX2_renamePiece 18 = .ok (.invokevirtual 131, 3) := by decide +kernel
theorem dX2_renamePiece_21 : decode cX2_renamePiece 21 = .ok (.istore 4, 2) := by decide +kernel
theorem dX2_renamePiece_23 : decode cX2_renamePiece 23 = .ok (.aload_n 0, 1) := by decide +kernel
theorem dX2_renamePiece_24 : decode cX2_renamePiece 24 = .ok (.getfield 27, 3) := by decide +kernel
theorem dX2_renamePiece_27 : decode cX2_renamePiece 27 = .ok (.iload 4, 2) := by decide +kernel
theorem dX2_renamePiece_29 : decode cX2_renamePiece 29 = .ok (.iaload, 1) := by decide +kernel
theorem dX2_renamePiece_30 : decode cX2_renamePiece 30 = .ok (.iload_n 1, 1) := by decide +kernel
theorem dX2_renamePiece_31 : decode cX2_renamePiece 31 = .ok (.if_icmp .ne 11, 3) := by decide +kernel
theorem dX2_renamePiece_34 : decode cX2_renamePiece 34 = .ok (.aload_n 0, 1) := by decide +kernel
theorem dX2_renamePiece_35 : decode cX2_renamePiece 35 = .ok (.getfield 27, 3) := by decide +kernel
theorem dX2_renamePiece_38 : decode cX2_renamePiece 38 = .ok (.iload 4, 2) := by decide +kernel
theorem dX2_renamePiece_40 : decode cX2_renamePiece 40 = .ok (.iload_n 2, 1) := by decide +kernel
theorem dX2_renamePiece_41 : decode cX2_renamePiece 41 = .ok (.iastore, 1) := by decide +kernel
theorem dX2_renamePiece_42 : decode cX2_renamePiece 42 = .ok (.iinc 3 1, 3) := by decide +kernel
theorem dX2_renamePiece_45 : decode cX2_renamePiece 45 = .ok (.goto (-43), 3) := by decide +kernel
theorem dX2_renamePiece_48 : decode cX2_renamePiece 48 = .ok (.return_, 1) := by decide +kernel
