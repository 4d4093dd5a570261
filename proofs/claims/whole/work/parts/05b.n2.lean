theorem dX2_painted_33 : decode cX2_painted 33 = .ok (.iload_n 1, 1) := by decide +kernel
theorem dX2_painted_34 : decode cX2_painted 34 = .ok (.invokevirtual 151, 3) := by decide +kernel
theorem dX2_painted_37 : decode cX2_painted 37 = .ok (.lreturn, 1) := by decide +kernel
theorem dX2_painted_38 : decode cX2_painted 38 = .ok (.aload_n 0, 1) := by decide +kernel
theorem dX2_painted_39 : decode cX2_painted 39 = .ok (.invokevirtual 155, 3) := by decide +kernel
theorem dX2_painted_42 : decode cX2_painted 42 = .ok (.lreturn, 1) := by decide +kernel
theorem dX2_painted_43 : decode cX2_painted 43 = .ok (.ldc2_w 159, 3) := by decide +kernel
theorem dX2_painted_46 : decode cX2_painted 46 = .ok (.lreturn, 1) := by decide +kernel
set_option maxRecDepth 20000 in
theorem ggX2_locate_X2_isPlace : GoodIn wsX2_locate wsX2_isPlace := goodIn_r _ [5] (by decide +kernel) (by decide +kernel)
set_option maxRecDepth 20000 in
theorem gX2_locate_X2_isPlace : GoodIn wsX2_locate (va_wsS RX2 38 yX2_isPlace wsX2_isPlace) := goodIn_app (goodIn_of _ (by decide +kernel)) ggX2_locate_X2_isPlace
set_option maxRecDepth 20000 in
theorem ggX2_locate_X1_thereCount : GoodIn wsX2_locate wsX1_thereCount := goodIn_r _ [10, 11, 57, 58, 59, 60] (by decide +kernel) (by decide +kernel)
set_option maxRecDepth 20000 in
theorem gX2_locate_X1_thereCount : GoodIn wsX2_locate (wsV RX2 127 RX1 yX1_thereCount wsX1_thereCount) := goodIn_app (goodIn_of _ (by decide +kernel)) ggX2_locate_X1_thereCount
set_option maxRecDepth 20000 in
theorem ggX2_locate_X1_numberAt : GoodIn wsX2_locate wsX1_numberAt := goodIn_r _ [15, 16, 57, 58, 59, 60] (by decide +kernel) (by decide +kernel)
set_option maxRecDepth 20000 in
theorem gX2_locate_X1_numberAt : GoodIn wsX2_locate (wsV RX2 131 RX1 yX1_numberAt wsX1_numberAt) := goodIn_app (goodIn_of _ (by decide +kernel)) ggX2_locate_X1_numberAt
set_option maxRecDepth 20000 in
theorem ggX2_locate_X2_isRight : GoodIn wsX2_locate wsX2_isRight := goodIn_r _ [20, 21, 22, 23, 4, 24, 25, 1, 26, 27, 28, 9, 29, 30, 31, 32, 33, 34, 35, 36, 37, 38, 39, 40, 41, 51, 52, 53, 54, 55, 56, 57, 58, 59, 60, 61, 62, 63] (by decide +kernel) (by decide +kernel)
set_option maxRecDepth 20000 in
theorem gX2_locate_X2_isRight : GoodIn wsX2_locate (wsV RX2 135 RX2 yX2_isRight wsX2_isRight) := goodIn_app (goodIn_of _ (by decide +kernel)) ggX2_locate_X2_isRight
set_option maxRecDepth 20000 in
theorem ggX2_locate_X2_hasPlace : GoodIn wsX2_locate wsX2_hasPlace := goodIn_r _ [45, 46, 47, 48, 4, 49, 25, 1, 26, 27, 28, 9, 29, 30, 50, 39, 40, 34, 41, 36, 37, 51, 52, 53, 54, 55, 56, 57, 58, 59, 60, 61, 62, 63] (by decide +kernel) (by decide +kernel)
set_option maxRecDepth 20000 in
theorem gX2_locate_X2_hasPlace : GoodIn wsX2_locate (wsV RX2 161 RX2 yX2_hasPlace wsX2_hasPlace) := goodIn_app (goodIn_of _ (by decide +kernel)) ggX2_locate_X2_hasPlace
theorem dX2_locate_0 : decode cX2_locate 0 = .ok (.iload_n 1, 1) := by decide +kernel
theorem dX2_locate_1 : decode cX2_locate 1 = .ok (.iload_n 2, 1) := by decide +kernel
theorem dX2_locate_2 : decode cX2_locate 2 = .ok (.invokestatic 38, 3) := by decide +kernel
theorem dX2_locate_5 : decode cX2_locate 5 = .ok (.ifCond .ne 5, 3) := by decide +kernel
theorem dX2_locate_8 : decode cX2_locate 8 = .ok (.iconst (-1), 1) := by decide +kernel
theorem dX2_locate_9 : decode cX2_locate 9 = .ok (.ireturn, 1) := by decide +kernel
theorem dX2_locate_10 : decode cX2_locate 10 = .ok (.iconst 0, 1) := by decide +kernel
theorem dX2_locate_11 : decode cX2_locate 11 = .ok (.istore_n 3, 1) := by decide +kernel
theorem dX2_locate_12 : decode cX2_locate 12 = .ok (.iload_n 3, 1) := by decide +kernel
theorem dX2_locate_13 : decode cX2_locate 13 = .ok (.aload_n 0, 1) := by decide +kernel
theorem dX2_locate_14 : decode cX2_locate 14 = .ok (.getfield 19, 3) := by decide +kernel
theorem dX2_locate_17 : decode cX2_locate 17 = .ok (.invokevirtual 127, 3) := by decide +kernel
theorem dX2_locate_20 : decode cX2_locate 20 = .ok (.if_icmp .ge 42, 3) := by decide +kernel
theorem dX2_locate_23 : decode cX2_locate 23 = .ok (.aload_n 0, 1) := by decide +kernel
theorem dX2_locate_24 : decode cX2_locate 24 = .ok (.getfield 19, 3) := by decide +kernel
theorem dX2_locate_27 : decode cX2_locate 27 = .ok (.iload_n 3, 1) := by decide +kernel
theorem dX2_locate_28 : decode cX2_locate 28 = .ok (.invokevirtual 131, 3) := by decide +kernel
theorem dX2_locate_31 : decode cX2_locate 31 = .ok (.istore 4, 2) := by decide +kernel
theorem dX2_locate_33 : decode cX2_locate 33 = .ok (.aload_n 0, 1) := by decide +kernel
theorem dX2_locate_34 : decode cX2_locate 34 = .ok (.iload 4, 2) := by decide +kernel
theorem dX2_locate_36 : decode cX2_locate 36 = .ok (.invokevirtual 135, 3) := by decide +kernel
theorem dX2_locate_39 : decode cX2_locate 39 = .ok (.ifCond .eq 17, 3) := by decide +kernel
theorem dX2_locate_42 : decode cX2_locate 42 = .ok (.aload_n 0, 1) := by decide +kernel
theorem dX2_locate_43 : decode cX2_locate 43 = .ok (.iload 4, 2) := by decide +kernel
theorem dX2_locate_45 : decode cX2_locate 45 = .ok (.iload_n 1, 1) := by decide +kernel
theorem dX2_locate_46 : decode cX2_locate 46 = .ok (.iload_n 2, 1) := by decide +kernel
theorem dX2_locate_47 : decode cX2_locate 47 = .ok (.invokevirtual 161, 3) := by decide +kernel
theorem dX2_locate_50 : decode cX2_locate 50 = .ok (.ifCond .eq 6, 3) := by decide +kernel
theorem dX2_locate_53 : decode cX2_locate 53 = .ok (.iload 4, 2) := by decide +kernel
theorem dX2_locate_55 : decode cX2_locate 55 = .ok (.ireturn, 1) := by decide +kernel
theorem dX2_locate_56 : decode cX2_locate 56 = .ok (.iinc 3 1, 3) := by decide +kernel
theorem dX2_locate_59 : decode cX2_locate 59 = .ok (.goto (-47), 3) := by decide +kernel
theorem dX2_locate_62 : decode cX2_locate 62 = .ok (.iconst (-1), 1) := by decide +kernel
theorem dX2_locate_63 : decode cX2_locate 63 = .ok (.ireturn, 1) := by decide +kernel
set_option maxRecDepth 20000 in
theorem ggX2_beside_X2_isEdge : GoodIn wsX2_beside wsX2_isEdge := goodIn_r _ [6, 1, 7, 8, 9, 10, 11, 12, 13, 27, 28, 29, 30, 31, 32, 33, 34, 35, 36] (by decide +kernel) (by decide +kernel)
set_option maxRecDepth 20000 in
theorem gX2_beside_X2_isEdge : GoodIn wsX2_beside (wsV RX2 113 RX2 yX2_isEdge wsX2_isEdge) := goodIn_app (goodIn_of _ (by decide +kernel)) ggX2_beside_X2_isEdge
set_option maxRecDepth 20000 in
theorem ggX2_beside_X1_neighbour : GoodIn wsX2_beside wsX1_neighbour := goodIn_r _ [17, 12, 13, 18, 19, 20, 10, 21, 22, 23, 24, 25, 26, 33, 34, 35, 36] (by decide +kernel) (by decide +kernel)
set_option maxRecDepth 20000 in
theorem gX2_beside_X1_neighbour : GoodIn wsX2_beside (wsV RX2 164 RX1 yX1_neighbour wsX1_neighbour) := goodIn_app (goodIn_of _ (by decide +kernel)) ggX2_beside_X1_neighbour
theorem dX2_beside_0 : decode cX2_beside 0 = .ok (.aload_n 0, 1) := by decide +kernel
theorem dX2_beside_1 : decode cX2_beside 1 = .ok (.iload_n 1, 1) := by decide +kernel
theorem dX2_beside_2 : decode cX2_beside 2 = .ok (.iload_n 2, 1) := by decide +kernel
theorem dX2_beside_3 : decode cX2_beside 3 = .ok (.invokevirtual 113, 3) := by decide +kernel
theorem dX2_beside_6 : decode cX2_beside 6 = .ok (.ifCond .eq 15, 3) := by decide +kernel
theorem dX2_beside_9 : decode cX2_beside 9 = .ok (.aload_n 0, 1) := by decide +kernel
theorem dX2_beside_10 : decode cX2_beside 10 = .ok (.getfield 19, 3) := by decide +kernel
theorem dX2_beside_13 : decode cX2_beside 13 = .ok (.iload_n 1, 1) := by decide +kernel
theorem dX2_beside_14 : decode cX2_beside 14 = .ok (.iload_n 2, 1) := by decide +kernel
theorem dX2_beside_15 : decode cX2_beside 15 = .ok (.invokevirtual 164, 3) := by decide +kernel
theorem dX2_beside_18 : decode cX2_beside 18 = .ok (.goto 4, 3) := by decide +kernel
theorem dX2_beside_21 : decode cX2_beside 21 = .ok (.iconst (-1), 1) := by decide +kernel
theorem dX2_beside_22 : decode cX2_beside 22 = .ok (.ireturn, 1) := by decide +kernel
set_option maxRecDepth 20000 in
theorem ggX2_isGood_X2_isEdge : GoodIn wsX2_isGood wsX2_isEdge := goodIn_r _ [5, 6, 7, 8, 9, 10, 11, 12, 13, 44, 45, 46, 47, 48, 49, 50, 51, 52, 53] (by decide +kernel) (by decide +kernel)
set_option maxRecDepth 20000 in
theorem gX2_isGood_X2_isEdge : GoodIn wsX2_isGood (wsV RX2 113 RX2 yX2_isEdge wsX2_isEdge) := goodIn_app (goodIn_of _ (by decide +kernel)) ggX2_isGood_X2_isEdge
set_option maxRecDepth 20000 in
theorem ggX2_isGood_X2_isGoodEdge : GoodIn wsX2_isGood wsX2_isGoodEdge := goodIn_r _ [17, 6, 18, 19, 20, 21, 10, 22, 12, 13, 23, 24, 25, 26, 27, 28, 29, 30, 31, 32, 33, 34, 35, 36, 37, 38, 39, 40, 41, 42, 43, 44, 45, 46, 47, 48, 49, 50, 51, 52, 53, 54, 55, 56] (by decide +kernel) (by decide +kernel)
set_option maxRecDepth 20000 in
theorem gX2_isGood_X2_isGoodEdge : GoodIn wsX2_isGood (wsV RX2 167 RX2 yX2_isGoodEdge wsX2_isGoodEdge) := goodIn_app (goodIn_of _ (by decide +kernel)) ggX2_isGood_X2_isGoodEdge
theorem dX2_isGood_0 : decode cX2_isGood 0 = .ok (.aload_n 0, 1) := by decide +kernel
theorem dX2_isGood_1 : decode cX2_isGood 1 = .ok (.iload_n 1, 1) := by decide +kernel
theorem dX2_isGood_2 : decode cX2_isGood 2 = .ok (.iload_n 2, 1) := by decide +kernel
theorem dX2_isGood_3 : decode cX2_isGood 3 = .ok (.invokevirtual 113, 3) := by decide +kernel
theorem dX2_isGood_6 : decode cX2_isGood 6 = .ok (.ifCond .eq 16, 3) := by decide +kernel
theorem dX2_isGood_9 : decode cX2_isGood 9 = .ok (.aload_n 0, 1) := by decide +kernel
theorem dX2_isGood_10 : decode cX2_isGood 10 = .ok (.iload_n 1, 1) := by decide +kernel
theorem dX2_isGood_11 : decode cX2_isGood 11 = .ok (.iload_n 2, 1) := by decide +kernel
theorem dX2_isGood_12 : decode cX2_isGood 12 = .ok (.invokevirtual 167, 3) := by decide +kernel
theorem dX2_isGood_15 : decode cX2_isGood 15 = .ok (.ifCond .eq 7, 3) := by decide +kernel
theorem dX2_isGood_18 : decode cX2_isGood 18 = .ok (.iconst 1, 1) := by decide +kernel
theorem dX2_isGood_19 : decode cX2_isGood 19 = .ok (.goto 4, 3) := by decide +kernel
theorem dX2_isGood_22 : decode cX2_isGood 22 = .ok (.iconst 0, 1) := by decide +kernel
theorem dX2_isGood_23 : decode cX2_isGood 23 = .ok (.ireturn, 1) := by decide +kernel
set_option maxRecDepth 20000 in
theorem ggX2_corner_X2_isEdge : GoodIn wsX2_corner wsX2_isEdge := goodIn_r _ [6, 1, 7, 8, 9, 10, 11, 12, 13, 19, 20, 21, 22, 23, 24, 25, 26, 27, 28] (by decide +kernel) (by decide +kernel)
set_option maxRecDepth 20000 in
theorem gX2_corner_X2_isEdge : GoodIn wsX2_corner (wsV RX2 113 RX2 yX2_isEdge wsX2_isEdge) := goodIn_app (goodIn_of _ (by decide +kernel)) ggX2_corner_X2_isEdge
set_option maxRecDepth 20000 in
theorem ggX2_corner_X1_cornerOf : GoodIn wsX2_corner wsX1_cornerOf := goodIn_r _ [17, 18, 25, 26, 27, 28] (by decide +kernel) (by decide +kernel)
set_option maxRecDepth 20000 in
theorem gX2_corner_X1_cornerOf : GoodIn wsX2_corner (wsV RX2 107 RX1 yX1_cornerOf wsX1_cornerOf) := goodIn_app (goodIn_of _ (by decide +kernel)) ggX2_corner_X1_cornerOf
theorem dX2_corner_0 : decode cX2_corner 0 = .ok (.aload_n 0, 1) := by decide +kernel
theorem dX2_corner_1 : decode cX2_corner 1 = .ok (.iload_n 1, 1) := by decide +kernel
theorem dX2_corner_2 : decode cX2_corner 2 = .ok (.iload_n 2, 1) := by decide +kernel
theorem dX2_corner_3 : decode cX2_corner 3 = .ok (.invokevirtual 113, 3) := by decide +kernel
theorem dX2_corner_6 : decode cX2_corner 6 = .ok (.ifCond .eq 15, 3) := by decide +kernel
theorem dX2_corner_9 : decode cX2_corner 9 = .ok (.aload_n 0, 1) := by decide +kernel
theorem dX2_corner_10 : decode cX2_corner 10 = .ok (.getfield 19, 3) := by decide +kernel
theorem dX2_corner_13 : decode cX2_corner 13 = .ok (.iload_n 1, 1) := by decide +kernel
theorem dX2_corner_14 : decode cX2_corner 14 = .ok (.iload_n 2, 1) := by decide +kernel
theorem dX2_corner_15 : decode cX2_corner 15 = .ok (.invokevirtual 107, 3) := by decide +kernel
theorem dX2_corner_18 : decode cX2_corner 18 = .ok (.goto 4, 3) := by decide +kernel
theorem dX2_corner_21 : decode cX2_corner 21 = .ok (.iconst (-1), 1) := by decide +kernel
theorem dX2_corner_22 : decode cX2_corner 22 = .ok (.ireturn, 1) := by decide +kernel
set_option maxRecDepth 20000 in
theorem ggX2_count_X0_came : GoodIn wsX2_count wsX0_came := goodIn_r _ [7, 8, 107, 108, 109] (by decide +kernel) (by decide +kernel)
set_option maxRecDepth 20000 in
theorem gX2_count_X0_came : GoodIn wsX2_count (wsV RX2 170 RX0 yX0_came wsX0_came) := goodIn_app (goodIn_of _ (by decide +kernel)) ggX2_count_X0_came
set_option maxRecDepth 20000 in
theorem ggX2_count_X1_thereCount : GoodIn wsX2_count wsX1_thereCount := goodIn_r _ [13, 14, 110, 111, 112, 113] (by decide +kernel) (by decide +kernel)
set_option maxRecDepth 20000 in
theorem gX2_count_X1_thereCount : GoodIn wsX2_count (wsV RX2 127 RX1 yX1_thereCount wsX1_thereCount) := goodIn_app (goodIn_of _ (by decide +kernel)) ggX2_count_X1_thereCount
set_option maxRecDepth 20000 in
theorem ggX2_count_X1_came : GoodIn wsX2_count wsX1_came := goodIn_r _ [18, 19, 110, 111, 112, 113] (by decide +kernel) (by decide +kernel)
set_option maxRecDepth 20000 in
theorem gX2_count_X1_came : GoodIn wsX2_count (wsV RX2 173 RX1 yX1_came wsX1_came) := goodIn_app (goodIn_of _ (by decide +kernel)) ggX2_count_X1_came
set_option maxRecDepth 20000 in
theorem ggX2_count_X2_countCornerPoints : GoodIn wsX2_count wsX2_countCornerPoints := goodIn_r _ [24, 2, 9, 10, 11, 12, 13, 14, 25, 26, 27, 28, 29, 30, 31, 32, 33, 34, 35, 36, 23, 37, 38, 39, 40, 41, 42, 43, 44, 101, 102, 103, 104, 105, 106, 110, 111, 112, 113] (by decide +kernel) (by decide +kernel)
set_option maxRecDepth 20000 in
theorem gX2_count_X2_countCornerPoints : GoodIn wsX2_count (wsV RX2 174 RX2 yX2_countCornerPoints wsX2_countCornerPoints) := goodIn_app (goodIn_of _ (by decide +kernel)) ggX2_count_X2_countCornerPoints
set_option maxRecDepth 20000 in
theorem ggX2_count_X2_countDifferentEdges : GoodIn wsX2_count wsX2_countDifferentEdges := goodIn_r _ [48, 49, 2, 50, 51, 52, 53, 54, 55, 56, 57, 58, 59, 60, 9, 10, 11, 12, 13, 14, 25, 26, 27, 28, 29, 30, 31, 32, 33, 34, 35, 36, 23, 37, 38, 39, 40, 41, 42, 43, 44, 101, 102, 103, 104, 105, 106, 110, 111, 112, 113] (by decide +kernel) (by decide +kernel)
set_option maxRecDepth 20000 in
theorem gX2_count_X2_countDifferentEdges : GoodIn wsX2_count (wsV RX2 177 RX2 yX2_countDifferentEdges wsX2_countDifferentEdges) := goodIn_app (goodIn_of _ (by decide +kernel)) ggX2_count_X2_countDifferentEdges
set_option maxRecDepth 20000 in
theorem ggX2_count_X2_countLonelyEdges : GoodIn wsX2_count wsX2_countLonelyEdges := goodIn_r _ [64, 2, 9, 10, 11, 12, 13, 14, 25, 26, 27, 28, 29, 65, 66, 67, 68, 69, 31, 32, 33, 34, 70, 71, 72, 73, 101, 102, 103, 104, 105, 106, 110, 111, 112, 113] (by decide +kernel) (by decide +kernel)
set_option maxRecDepth 20000 in
theorem gX2_count_X2_countLonelyEdges : GoodIn wsX2_count (wsV RX2 180 RX2 yX2_countLonelyEdges wsX2_countLonelyEdges) := goodIn_app (goodIn_of _ (by decide +kernel)) ggX2_count_X2_countLonelyEdges
set_option maxRecDepth 20000 in
theorem ggX2_count_X2_countPieces : GoodIn wsX2_count wsX2_countPieces := goodIn_r _ [77, 2, 78, 9, 10, 11, 12, 13, 14, 25, 26, 27, 28, 29, 65, 66, 67, 68, 69, 31, 32, 33, 34, 70, 71, 72, 73, 79, 80, 81, 23, 82, 101, 102, 103, 104, 105, 106, 110, 111, 112, 113] (by decide +kernel) (by decide +kernel)
set_option maxRecDepth 20000 in
theorem gX2_count_X2_countPieces : GoodIn wsX2_count (wsV RX2 183 RX2 yX2_countPieces wsX2_countPieces) := goodIn_app (goodIn_of _ (by decide +kernel)) ggX2_count_X2_countPieces
set_option maxRecDepth 20000 in
theorem ggX2_count_X2_countBadEdges : GoodIn wsX2_count wsX2_countBadEdges := goodIn_r _ [86, 2, 9, 10, 11, 12, 13, 14, 25, 26, 27, 28, 29, 87, 88, 89, 23, 90, 1, 65, 66, 67, 68, 69, 31, 32, 33, 34, 70, 71, 72, 73, 30, 91, 92, 93, 94, 95, 96, 97, 6, 98, 99, 100, 101, 102, 103, 104, 105, 106, 110, 111, 112, 113, 107, 108, 109] (by decide +kernel) (by decide +kernel)
set_option maxRecDepth 20000 in
theorem gX2_count_X2_countBadEdges : GoodIn wsX2_count (wsV RX2 186 RX2 yX2_countBadEdges wsX2_countBadEdges) := goodIn_app (goodIn_of _ (by decide +kernel)) ggX2_count_X2_countBadEdges
theorem dX2_count_0 : decode cX2_count 0 = .ok (.iload_n 1, 1) := by decide +kernel
theorem dX2_count_1 : decode cX2_count 1 = .ok (.tableswitch 96 0 7 #[47, 55, 63, 71, 76, 81, 86, 91], 47) := by decide +kernel
theorem dX2_count_48 : decode cX2_count 48 = .ok (.aload_n 0, 1) := by decide +kernel
theorem dX2_count_49 : decode cX2_count 49 = .ok (.getfield 10, 3) := by decide +kernel
theorem dX2_count_52 : decode cX2_count 52 = .ok (.invokevirtual 170, 3) := by decide +kernel
theorem dX2_count_55 : decode cX2_count 55 = .ok (.ireturn, 1) := by decide +kernel
theorem dX2_count_56 : decode cX2_count 56 = .ok (.aload_n 0, 1) := by decide +kernel
theorem dX2_count_57 : decode cX2_count 57 = .ok (.getfield 19, 3) := by decide +kernel
theorem dX2_count_60 : decode cX2_count 60 = .ok (.invokevirtual 127, 3) := by decide +kernel
theorem dX2_count_63 : decode cX2_count 63 = .ok (.ireturn, 1) := by decide +kernel
theorem dX2_count_64 : decode cX2_count 64 = .ok (.aload_n 0, 1) := by decide +kernel
theorem dX2_count_65 : decode cX2_count 65 = .ok (.getfield 19, 3) := by decide +kernel
theorem dX2_count_68 : decode cX2_count 68 = .ok (.invokevirtual 173, 3) := by decide +kernel
theorem dX2_count_71 : decode cX2_count 71 = .ok (.ireturn, 1) := by decide +kernel
theorem dX2_count_72 : decode cX2_count 72 = .ok (.aload_n 0, 1) := by decide +kernel
theorem dX2_count_73 : decode cX2_count 73 = .ok (.invokevirtual 174, 3) := by decide +kernel
theorem dX2_count_76 : decode cX2_count 76 = .ok (.ireturn, 1) := by decide +kernel
theorem dX2_count_77 : decode cX2_count 77 = .ok (.aload_n 0, 1) := by decide +kernel
theorem dX2_count_78 : decode cX2_count 78 = .ok (.invokevirtual 177, 3) := by decide +kernel
theorem dX2_count_81 : decode cX2_count 81 = .ok (.ireturn, 1) := by decide +kernel
theorem dX2_count_82 : decode cX2_count 82 = .ok (.aload_n 0, 1) := by decide +kernel
theorem dX2_count_83 : decode cX2_count 83 = .ok (.invokevirtual 180, 3) := by decide +kernel
theorem dX2_count_86 : decode cX2_count 86 = .ok (.ireturn, 1) := by decide +kernel
theorem dX2_count_87 : decode cX2_count 87 = .ok (.aload_n 0, 1) := by decide +kernel
theorem dX2_count_88 : decode cX2_count 88 = .ok (.invokevirtual 183, 3) := by decide +kernel
theorem dX2_count_91 : decode cX2_count 91 = .ok (.ireturn, 1) := by decide +kernel
theorem dX2_count_92 : decode cX2_count 92 = .ok (.aload_n 0, 1) := by decide +kernel
theorem dX2_count_93 : decode cX2_count 93 = .ok (.invokevirtual 186, 3) := by decide +kernel
theorem dX2_count_96 : decode cX2_count 96 = .ok (.ireturn, 1) := by decide +kernel
theorem dX2_count_97 : decode cX2_count 97 = .ok (.iconst (-1), 1) := by decide +kernel
theorem dX2_count_98 : decode cX2_count 98 = .ok (.ireturn, 1) := by decide +kernel
theorem dX2_isPlace_0 : decode cX2_isPlace 0 = .ok (.iload_n 0, 1) := by decide +kernel
theorem dX2_isPlace_1 : decode cX2_isPlace 1 = .ok (.ifCond .lt 25, 3) := by decide +kernel
theorem dX2_isPlace_4 : decode cX2_isPlace 4 = .ok (.iload_n 0, 1) := by decide +kernel
theorem dX2_isPlace_5 : decode cX2_isPlace 5 = .ok (.sipush 512, 3) := by decide +kernel
theorem dX2_isPlace_8 : decode cX2_isPlace 8 = .ok (.if_icmp .ge 18, 3) := by decide +kernel
theorem dX2_isPlace_11 : decode cX2_isPlace 11 = .ok (.iload_n 1, 1) := by decide +kernel
theorem dX2_isPlace_12 : decode cX2_isPlace 12 = .ok (.ifCond .lt 14, 3) := by decide +kernel
theorem dX2_isPlace_15 : decode cX2_isPlace 15 = .ok (.iload_n 1, 1) := by decide +kernel
theorem dX2_isPlace_16 : decode cX2_isPlace 16 = .ok (.sipush 512, 3) := by decide +kernel
theorem dX2_isPlace_19 : decode cX2_isPlace 19 = .ok (.if_icmp .ge 7, 3) := by decide +kernel
theorem dX2_isPlace_22 : decode cX2_isPlace 22 = .ok (.iconst 1, 1) := by decide +kernel
theorem dX2_isPlace_23 : decode cX2_isPlace 23 = .ok (.goto 4, 3) := by decide +kernel
theorem dX2_isPlace_26 : decode cX2_isPlace 26 = .ok (.iconst 0, 1) := by decide +kernel
theorem dX2_isPlace_27 : decode cX2_isPlace 27 = .ok (.ireturn, 1) := by decide +kernel
theorem dX2_isPixel_0 : decode cX2_isPixel 0 = .ok (.iload_n 0, 1) := by decide +kernel
theorem dX2_isPixel_1 : decode cX2_isPixel 1 = .ok (.ifCond .lt 23, 3) := by decide +kernel
theorem dX2_isPixel_4 : decode cX2_isPixel 4 = .ok (.iload_n 0, 1) := by decide +kernel
theorem dX2_isPixel_5 : decode cX2_isPixel 5 = .ok (.bipush 32, 2) := by decide +kernel
theorem dX2_isPixel_7 : decode cX2_isPixel 7 = .ok (.if_icmp .ge 17, 3) := by decide +kernel
theorem dX2_isPixel_10 : decode cX2_isPixel 10 = .ok (.iload_n 1, 1) := by decide +kernel
theorem dX2_isPixel_11 : decode cX2_isPixel 11 = .ok (.ifCond .lt 13, 3) := by decide +kernel
theorem dX2_isPixel_14 : decode cX2_isPixel 14 = .ok (.iload_n 1, 1) := by decide +kernel
theorem dX2_isPixel_15 : decode cX2_isPixel 15 = .ok (.bipush 32, 2) := by decide +kernel
theorem dX2_isPixel_17 : decode cX2_isPixel 17 = .ok (.if_icmp .ge 7, 3) := by decide +kernel
theorem dX2_isPixel_20 : decode cX2_isPixel 20 = .ok (.iconst 1, 1) := by decide +kernel
theorem dX2_isPixel_21 : decode cX2_isPixel 21 = .ok (.goto 4, 3) := by decide +kernel
theorem dX2_isPixel_24 : decode cX2_isPixel 24 = .ok (.iconst 0, 1) := by decide +kernel
theorem dX2_isPixel_25 : decode cX2_isPixel 25 = .ok (.ireturn, 1) := by decide +kernel
theorem dX2_sampleOf_0 : decode cX2_sampleOf 0 = .ok (.bipush 16, 2) := by decide +kernel
theorem dX2_sampleOf_2 : decode cX2_sampleOf 2 = .ok (.iload_n 0, 1) := by decide +kernel
theorem dX2_sampleOf_3 : decode cX2_sampleOf 3 = .ok (.imul, 1) := by decide +kernel
theorem dX2_sampleOf_4 : decode cX2_sampleOf 4 = .ok (.bipush 8, 2) := by decide +kernel
theorem dX2_sampleOf_6 : decode cX2_sampleOf 6 = .ok (.iadd, 1) := by decide +kernel
theorem dX2_sampleOf_7 : decode cX2_sampleOf 7 = .ok (.ireturn, 1) := by decide +kernel
set_option maxRecDepth 20000 in
theorem ggX2_isEdge_X1_isThere : GoodIn wsX2_isEdge wsX1_isThere := goodIn_r _ [6, 7, 8, 15, 16, 17, 18] (by decide +kernel) (by decide +kernel)
set_option maxRecDepth 20000 in
theorem gX2_isEdge_X1_isThere : GoodIn wsX2_isEdge (wsV RX2 90 RX1 yX1_isThere wsX1_isThere) := goodIn_app (goodIn_of _ (by decide +kernel)) ggX2_isEdge_X1_isThere
theorem dX2_isEdge_0 : decode cX2_isEdge 0 = .ok (.iload_n 2, 1) := by decide +kernel
theorem dX2_isEdge_1 : decode cX2_isEdge 1 = .ok (.ifCond .lt 23, 3) := by decide +kernel
theorem dX2_isEdge_4 : decode cX2_isEdge 4 = .ok (.iload_n 2, 1) := by decide +kernel
theorem dX2_isEdge_5 : decode cX2_isEdge 5 = .ok (.iconst 3, 1) := by decide +kernel
theorem dX2_isEdge_6 : decode cX2_isEdge 6 = .ok (.if_icmp .ge 18, 3) := by decide +kernel
theorem dX2_isEdge_9 : decode cX2_isEdge 9 = .ok (.aload_n 0, 1) := by decide +kernel
theorem dX2_isEdge_10 : decode cX2_isEdge 10 = .ok (.getfield 19, 3) := by decide +kernel
theorem dX2_isEdge_13 : decode cX2_isEdge 13 = .ok (.iload_n 1, 1) := by decide +kernel
theorem dX2_isEdge_14 : decode cX2_isEdge 14 = .ok (.invokevirtual 90, 3) := by decide +kernel
theorem dX2_isEdge_17 : decode cX2_isEdge 17 = .ok (.ifCond .eq 7, 3) := by decide +kernel
theorem dX2_isEdge_20 : decode cX2_isEdge 20 = .ok (.iconst 1, 1) := by decide +kernel
theorem dX2_isEdge_21 : decode cX2_isEdge 21 = .ok (.goto 4, 3) := by decide +kernel
theorem dX2_isEdge_24 : decode cX2_isEdge 24 = .ok (.iconst 0, 1) := by decide +kernel
theorem dX2_isEdge_25 : decode cX2_isEdge 25 = .ok (.ireturn, 1) := by decide +kernel
set_option maxRecDepth 20000 in
theorem ggX2_turnOf_X1_cornerOf : GoodIn wsX2_turnOf wsX1_cornerOf := goodIn_r _ [7, 8, 26, 27, 28, 29] (by decide +kernel) (by decide +kernel)
set_option maxRecDepth 20000 in
theorem gX2_turnOf_X1_cornerOf : GoodIn wsX2_turnOf (wsV RX2 107 RX1 yX1_cornerOf wsX1_cornerOf) := goodIn_app (goodIn_of _ (by decide +kernel)) ggX2_turnOf_X1_cornerOf
set_option maxRecDepth 20000 in
theorem ggX2_turnOf_X0_turnOf : GoodIn wsX2_turnOf wsX0_turnOf := goodIn_r _ [13, 14, 15, 16, 17, 18, 12, 19, 30, 31, 32] (by decide +kernel) (by decide +kernel)
set_option maxRecDepth 20000 in
theorem gX2_turnOf_X0_turnOf : GoodIn wsX2_turnOf (wsV RX2 189 RX0 yX0_turnOf wsX0_turnOf) := goodIn_app (goodIn_of _ (by decide +kernel)) ggX2_turnOf_X0_turnOf
theorem dX2_turnOf_0 : decode cX2_turnOf 0 = .ok (.aload_n 0, 1) := by decide +kernel
theorem dX2_turnOf_1 : decode cX2_turnOf 1 = .ok (.getfield 10, 3) := by decide +kernel
theorem dX2_turnOf_4 : decode cX2_turnOf 4 = .ok (.aload_n 0, 1) := by decide +kernel
theorem dX2_turnOf_5 : decode cX2_turnOf 5 = .ok (.getfield 19, 3) := by decide +kernel
theorem dX2_turnOf_8 : decode cX2_turnOf 8 = .ok (.iload_n 1, 1) := by decide +kernel
theorem dX2_turnOf_9 : decode cX2_turnOf 9 = .ok (.iconst 0, 1) := by decide +kernel
theorem dX2_turnOf_10 : decode cX2_turnOf 10 = .ok (.invokevirtual 107, 3) := by decide +kernel
theorem dX2_turnOf_13 : decode cX2_turnOf 13 = .ok (.aload_n 0, 1) := by decide +kernel
theorem dX2_turnOf_14 : decode cX2_turnOf 14 = .ok (.getfield 19, 3) := by decide +kernel
theorem dX2_turnOf_17 : decode cX2_turnOf 17 = .ok (.iload_n 1, 1) := by decide +kernel
theorem dX2_turnOf_18 : decode cX2_turnOf 18 = .ok (.iconst 1, 1) := by decide +kernel
theorem dX2_turnOf_19 : decode cX2_turnOf 19 = .ok (.invokevirtual 107, 3) := by decide +kernel
theorem dX2_turnOf_22 : decode cX2_turnOf 22 = .ok (.aload_n 0, 1) := by decide +kernel
theorem dX2_turnOf_23 : decode cX2_turnOf 23 = .ok (.getfield 19, 3) := by decide +kernel
theorem dX2_turnOf_26 : decode cX2_turnOf 26 = .ok (.iload_n 1, 1) := by decide +kernel
theorem dX2_turnOf_27 : decode cX2_turnOf 27 = .ok (.iconst 2, 1) := by decide +kernel
theorem dX2_turnOf_28 : decode cX2_turnOf 28 = .ok (.invokevirtual 107, 3) := by decide +kernel
theorem dX2_turnOf_31 : decode cX2_turnOf 31 = .ok (.invokevirtual 189, 3) := by decide +kernel
theorem dX2_turnOf_34 : decode cX2_turnOf 34 = .ok (.ireturn, 1) := by decide +kernel
set_option maxRecDepth 20000 in
theorem ggX2_isRight_X2_turnOf : GoodIn wsX2_isRight wsX2_turnOf := goodIn_r _ [5, 6, 7, 8, 9, 10, 11, 12, 13, 14, 15, 16, 17, 18, 19, 20, 21, 22, 23, 24, 25, 26, 27, 28, 29, 30, 31, 32, 33, 34, 35, 36, 37] (by decide +kernel) (by decide +kernel)
set_option maxRecDepth 20000 in
theorem gX2_isRight_X2_turnOf : GoodIn wsX2_isRight (wsV RX2 192 RX2 yX2_turnOf wsX2_turnOf) := goodIn_app (goodIn_of _ (by decide +kernel)) ggX2_isRight_X2_turnOf
theorem dX2_isRight_0 : decode cX2_isRight 0 = .ok (.aload_n 0, 1) := by decide +kernel
theorem dX2_isRight_1 : decode cX2_isRight 1 = .ok (.iload_n 1, 1) := by decide +kernel
theorem dX2_isRight_2 : decode cX2_isRight 2 = .ok (.invokevirtual 192, 3) := by decide +kernel
theorem dX2_isRight_5 : decode cX2_isRight 5 = .ok (.ifCond .le 7, 3) := by decide +kernel
theorem dX2_isRight_8 : decode cX2_isRight 8 = .ok (.iconst 1, 1) := by decide +kernel
theorem dX2_isRight_9 : decode cX2_isRight 9 = .ok (.goto 4, 3) := by decide +kernel
theorem dX2_isRight_12 : decode cX2_isRight 12 = .ok (.iconst 0, 1) := by decide +kernel
theorem dX2_isRight_13 : decode cX2_isRight 13 = .ok (.ireturn, 1) := by decide +kernel
set_option maxRecDepth 20000 in
theorem ggX2_turnBesideEdge_X1_cornerOf : GoodIn wsX2_turnBesideEdge wsX1_cornerOf := goodIn_r _ [7, 8, 22, 23, 24, 25] (by decide +kernel) (by decide +kernel)
set_option maxRecDepth 20000 in
theorem gX2_turnBesideEdge_X1_cornerOf : GoodIn wsX2_turnBesideEdge (wsV RX2 107 RX1 yX1_cornerOf wsX1_cornerOf) := goodIn_app (goodIn_of _ (by decide +kernel)) ggX2_turnBesideEdge_X1_cornerOf
set_option maxRecDepth 20000 in
theorem ggX2_turnBesideEdge_X0_turnAt : GoodIn wsX2_turnBesideEdge wsX0_turnAt := goodIn_r _ [13, 14, 15, 26, 27, 28] (by decide +kernel) (by decide +kernel)
set_option maxRecDepth 20000 in
theorem gX2_turnBesideEdge_X0_turnAt : GoodIn wsX2_turnBesideEdge (wsV RX2 194 RX0 yX0_turnAt wsX0_turnAt) := goodIn_app (goodIn_of _ (by decide +kernel)) ggX2_turnBesideEdge_X0_turnAt
theorem dX2_turnBesideEdge_0 : decode cX2_turnBesideEdge 0 = .ok (.aload_n 0, 1) := by decide +kernel
theorem dX2_turnBesideEdge_1 : decode cX2_turnBesideEdge 1 = .ok (.getfield 10, 3) := by decide +kernel
theorem dX2_turnBesideEdge_4 : decode cX2_turnBesideEdge 4 = .ok (.aload_n 0, 1) := by decide +kernel
theorem dX2_turnBesideEdge_5 : decode cX2_turnBesideEdge 5 = .ok (.getfield 19, 3) := by decide +kernel
theorem dX2_turnBesideEdge_8 : decode cX2_turnBesideEdge 8 = .ok (.iload_n 1, 1) := by decide +kernel
theorem dX2_turnBesideEdge_9 : decode cX2_turnBesideEdge 9 = .ok (.iload_n 2, 1) := by decide +kernel
theorem dX2_turnBesideEdge_10 : decode cX2_turnBesideEdge 10 = .ok (.invokevirtual 107, 3) := by decide +kernel
theorem dX2_turnBesideEdge_13 : decode cX2_turnBesideEdge 13 = .ok (.aload_n 0, 1) := by decide +kernel
theorem dX2_turnBesideEdge_14 : decode cX2_turnBesideEdge 14 = .ok (.getfield 19, 3) := by decide +kernel
theorem dX2_turnBesideEdge_17 : decode cX2_turnBesideEdge 17 = .ok (.iload_n 1, 1) := by decide +kernel
theorem dX2_turnBesideEdge_18 : decode cX2_turnBesideEdge 18 = .ok (.iload_n 2, 1) := by decide +kernel
theorem dX2_turnBesideEdge_19 : decode cX2_turnBesideEdge 19 = .ok (.iconst 1, 1) := by decide +kernel
theorem dX2_turnBesideEdge_20 : decode cX2_turnBesideEdge 20 = .ok (.iadd, 1) := by decide +kernel
theorem dX2_turnBesideEdge_21 : decode cX2_turnBesideEdge 21 = .ok (.invokevirtual 107, 3) := by decide +kernel
theorem dX2_turnBesideEdge_24 : decode cX2_turnBesideEdge 24 = .ok (.iload_n 3, 1) := by decide +kernel
theorem dX2_turnBesideEdge_25 : decode cX2_turnBesideEdge 25 = .ok (.iload 4, 2) := by decide +kernel
theorem dX2_turnBesideEdge_27 : decode cX2_turnBesideEdge 27 = .ok (.invokevirtual 194, 3) := by decide +kernel
theorem dX2_turnBesideEdge_30 : decode cX2_turnBesideEdge 30 = .ok (.ireturn, 1) := by decide +kernel
set_option maxRecDepth 20000 in
theorem ggX2_hasPlace_X2_turnBesideEdge : GoodIn wsX2_hasPlace wsX2_turnBesideEdge := goodIn_r _ [5, 6, 7, 8, 9, 10, 11, 12, 13, 14, 15, 16, 17, 18, 19, 20, 21, 22, 23, 24, 25, 26, 27, 28, 29, 30, 31, 32, 33] (by decide +kernel) (by decide +kernel)
set_option maxRecDepth 20000 in
theorem gX2_hasPlace_X2_turnBesideEdge : GoodIn wsX2_hasPlace (wsV RX2 198 RX2 yX2_turnBesideEdge wsX2_turnBesideEdge) := goodIn_app (goodIn_of _ (by decide +kernel)) ggX2_hasPlace_X2_turnBesideEdge
theorem dX2_hasPlace_0 : decode cX2_hasPlace 0 = .ok (.iconst 0, 1) := by decide +kernel
theorem dX2_hasPlace_1 : decode cX2_hasPlace 1 = .ok (.istore 4, 2) := by decide +kernel
theorem dX2_hasPlace_3 : decode cX2_hasPlace 3 = .ok (.iload 4, 2) := by decide +kernel
theorem dX2_hasPlace_5 : decode cX2_hasPlace 5 = .ok (.iconst 3, 1) := by decide +kernel
theorem dX2_hasPlace_6 : decode cX2_hasPlace 6 = .ok (.if_icmp .ge 23, 3) := by decide +kernel
theorem dX2_hasPlace_9 : decode cX2_hasPlace 9 = .ok (.aload_n 0, 1) := by decide +kernel
theorem dX2_hasPlace_10 : decode cX2_hasPlace 10 = .ok (.iload_n 1, 1) := by decide +kernel
theorem dX2_hasPlace_11 : decode cX2_hasPlace 11 = .ok (.iload 4, 2) := by decide +kernel
theorem dX2_hasPlace_13 : decode cX2_hasPlace 13 = .ok (.iload_n 2, 1) := by decide +kernel
theorem dX2_hasPlace_14 : decode cX2_hasPlace 14 = .ok (.iload_n 3, 1) := by decide +kernel
theorem dX2_hasPlace_15 : decode cX2_hasPlace 15 = .ok (.invokevirtual 198, 3) := by decide +kernel
theorem dX2_hasPlace_18 : decode cX2_hasPlace 18 = .ok (.ifCond .ge 5, 3) := by decide +kernel
theorem dX2_hasPlace_21 : decode cX2_hasPlace 21 = .ok (.iconst 0, 1) := by decide +kernel
theorem dX2_hasPlace_22 : decode cX2_hasPlace 22 = .ok (.ireturn, 1) := by decide +kernel
theorem dX2_hasPlace_23 : decode cX2_hasPlace 23 = .ok (.iinc 4 1, 3) := by decide +kernel
theorem dX2_hasPlace_26 : decode cX2_hasPlace 26 = .ok (.goto (-23), 3) := by decide +kernel
theorem dX2_hasPlace_29 : decode cX2_hasPlace 29 = .ok (.iconst 1, 1) := by decide +kernel
theorem dX2_hasPlace_30 : decode cX2_hasPlace 30 = .ok (.ireturn, 1) := by decide +kernel
set_option maxRecDepth 20000 in
theorem ggX2_isWithin_X2_turnBesideEdge : GoodIn wsX2_isWithin wsX2_turnBesideEdge := goodIn_r _ [5, 6, 7, 8, 9, 10, 11, 12, 13, 14, 15, 16, 17, 18, 19, 20, 21, 22, 23, 24, 25, 26, 27, 28, 29, 30, 31, 32, 33] (by decide +kernel) (by decide +kernel)
set_option maxRecDepth 20000 in
theorem gX2_isWithin_X2_turnBesideEdge : GoodIn wsX2_isWithin (wsV RX2 198 RX2 yX2_turnBesideEdge wsX2_turnBesideEdge) := goodIn_app (goodIn_of _ (by decide +kernel)) ggX2_isWithin_X2_turnBesideEdge
theorem dX2_isWithin_0 : decode cX2_isWithin 0 = .ok (.iconst 0, 1) := by decide +kernel
theorem dX2_isWithin_1 : decode cX2_isWithin 1 = .ok (.istore 4, 2) := by decide +kernel
theorem dX2_isWithin_3 : decode cX2_isWithin 3 = .ok (.iload 4, 2) := by decide +kernel
theorem dX2_isWithin_5 : decode cX2_isWithin 5 = .ok (.iconst 3, 1) := by decide +kernel
theorem dX2_isWithin_6 : decode cX2_isWithin 6 = .ok (.if_icmp .ge 23, 3) := by decide +kernel
theorem dX2_isWithin_9 : decode cX2_isWithin 9 = .ok (.aload_n 0, 1) := by decide +kernel
theorem dX2_isWithin_10 : decode cX2_isWithin 10 = .ok (.iload_n 1, 1) := by decide +kernel
theorem dX2_isWithin_11 : decode cX2_isWithin 11 = .ok (.iload 4, 2) := by decide +kernel
theorem dX2_isWithin_13 : decode cX2_isWithin 13 = .ok (.iload_n 2, 1) := by decide +kernel
theorem dX2_isWithin_14 : decode cX2_isWithin 14 = .ok (.iload_n 3, 1) := by decide +kernel
theorem dX2_isWithin_15 : decode cX2_isWithin 15 = .ok (.invokevirtual 198, 3) := by decide +kernel
theorem dX2_isWithin_18 : decode cX2_isWithin 18 = .ok (.ifCond .gt 5, 3) := by decide +kernel
theorem dX2_isWithin_21 : decode cX2_isWithin 21 = .ok (.iconst 0, 1) := by decide +kernel
theorem dX2_isWithin_22 : decode cX2_isWithin 22 = .ok (.ireturn, 1) := by decide +kernel
theorem dX2_isWithin_23 : decode cX2_isWithin 23 = .ok (.iinc 4 1, 3) := by decide +kernel
theorem dX2_isWithin_26 : decode cX2_isWithin 26 = .ok (.goto (-23), 3) := by decide +kernel
theorem dX2_isWithin_29 : decode cX2_isWithin 29 = .ok (.iconst 1, 1) := by decide +kernel
theorem dX2_isWithin_30 : decode cX2_isWithin 30 = .ok (.ireturn, 1) := by decide +kernel
set_option maxRecDepth 20000 in
theorem ggX2_coversPixel_X2_isRight : GoodIn wsX2_coversPixel wsX2_isRight := goodIn_r _ [5, 6, 7, 8, 4, 9, 10, 11, 12, 13, 14, 15, 16, 17, 18, 19, 20, 21, 22, 23, 24, 25, 26, 27, 28, 53, 54, 55, 56, 57, 58, 59, 60, 61, 62, 63, 64, 65] (by decide +kernel) (by decide +kernel)
set_option maxRecDepth 20000 in
theorem gX2_coversPixel_X2_isRight : GoodIn wsX2_coversPixel (wsV RX2 135 RX2 yX2_isRight wsX2_isRight) := goodIn_app (goodIn_of _ (by decide +kernel)) ggX2_coversPixel_X2_isRight
set_option maxRecDepth 20000 in
theorem ggX2_coversPixel_X2_sampleOf : GoodIn wsX2_coversPixel wsX2_sampleOf := goodIn_r _ [31] (by decide +kernel) (by decide +kernel)
set_option maxRecDepth 20000 in
theorem gX2_coversPixel_X2_sampleOf : GoodIn wsX2_coversPixel (va_wsS RX2 201 yX2_sampleOf wsX2_sampleOf) := goodIn_app (goodIn_of _ (by decide +kernel)) ggX2_coversPixel_X2_sampleOf
set_option maxRecDepth 20000 in
theorem ggX2_coversPixel_X2_liesInsideOrOnOwnEdges : GoodIn wsX2_coversPixel wsX2_liesInsideOrOnOwnEdges := goodIn_r _ [35, 36, 37, 38, 4, 39, 10, 11, 12, 13, 14, 15, 16, 17, 40, 26, 27, 21, 28, 23, 24, 41, 42, 43, 44, 45, 46, 47, 48, 49, 50, 51, 52, 53, 54, 55, 56, 57, 58, 59, 60, 61, 62, 63, 64, 65] (by decide +kernel) (by decide +kernel)
set_option maxRecDepth 20000 in
theorem gX2_coversPixel_X2_liesInsideOrOnOwnEdges : GoodIn wsX2_coversPixel (wsV RX2 204 RX2 yX2_liesInsideOrOnOwnEdges wsX2_liesInsideOrOnOwnEdges) := goodIn_app (goodIn_of _ (by decide +kernel)) ggX2_coversPixel_X2_liesInsideOrOnOwnEdges
theorem dX2_coversPixel_0 : decode cX2_coversPixel 0 = .ok (.aload_n 0, 1) := by decide +kernel
theorem dX2_coversPixel_1 : decode cX2_coversPixel 1 = .ok (.iload_n 1, 1) := by decide +kernel
theorem dX2_coversPixel_2 : decode cX2_coversPixel 2 = .ok (.invokevirtual 135, 3) := by decide +kernel
theorem dX2_coversPixel_5 : decode cX2_coversPixel 5 = .ok (.ifCond .eq 23, 3) := by decide +kernel
theorem dX2_coversPixel_8 : decode cX2_coversPixel 8 = .ok (.aload_n 0, 1) := by decide +kernel
theorem dX2_coversPixel_9 : decode cX2_coversPixel 9 = .ok (.iload_n 1, 1) := by decide +kernel
theorem dX2_coversPixel_10 : decode cX2_coversPixel 10 = .ok (.iload_n 2, 1) := by decide +kernel
theorem dX2_coversPixel_11 : decode cX2_coversPixel 11 = .ok (.invokestatic 201, 3) := by decide +kernel
theorem dX2_coversPixel_14 : decode cX2_coversPixel 14 = .ok (.iload_n 3, 1) := by decide +kernel
theorem dX2_coversPixel_15 : decode cX2_coversPixel 15 = .ok (.invokestatic 201, 3) := by decide +kernel
theorem dX2_coversPixel_18 : decode cX2_coversPixel 18 = .ok (.invokevirtual 204, 3) := by decide +kernel
theorem dX2_coversPixel_21 : decode cX2_coversPixel 21 = .ok (.ifCond .eq 7, 3) := by decide +kernel
theorem dX2_coversPixel_24 : decode cX2_coversPixel 24 = .ok (.iconst 1, 1) := by decide +kernel
theorem dX2_coversPixel_25 : decode cX2_coversPixel 25 = .ok (.goto 4, 3) := by decide +kernel
theorem dX2_coversPixel_28 : decode cX2_coversPixel 28 = .ok (.iconst 0, 1) := by decide +kernel
theorem dX2_coversPixel_29 : decode cX2_coversPixel 29 = .ok (.ireturn, 1) := by decide +kernel
set_option maxRecDepth 20000 in
theorem ggX2_liesInsideOrOnOwnEdges_X2_turnBesideEdge : GoodIn wsX2_liesInsideOrOnOwnEdges wsX2_turnBesideEdge := goodIn_r _ [5, 6, 7, 8, 9, 10, 11, 12, 13, 14, 15, 16, 17, 18, 19, 20, 33, 34, 35, 36, 37, 38, 39, 40, 41, 42, 43, 44, 45] (by decide +kernel) (by decide +kernel)
set_option maxRecDepth 20000 in
theorem gX2_liesInsideOrOnOwnEdges_X2_turnBesideEdge : GoodIn wsX2_liesInsideOrOnOwnEdges (wsV RX2 198 RX2 yX2_turnBesideEdge wsX2_turnBesideEdge) := goodIn_app (goodIn_of _ (by decide +kernel)) ggX2_liesInsideOrOnOwnEdges_X2_turnBesideEdge
set_option maxRecDepth 20000 in
theorem ggX2_liesInsideOrOnOwnEdges_X2_ownsEdge : GoodIn wsX2_liesInsideOrOnOwnEdges wsX2_ownsEdge := goodIn_r _ [24, 7, 6, 8, 9, 10, 11, 12, 13, 25, 26, 27, 17, 28, 20, 29, 30, 31, 32, 19, 33, 34, 35, 36, 37, 38, 39, 40, 41, 42, 43, 44, 45] (by decide +kernel) (by decide +kernel)
set_option maxRecDepth 20000 in
theorem gX2_liesInsideOrOnOwnEdges_X2_ownsEdge : GoodIn wsX2_liesInsideOrOnOwnEdges (wsV RX2 207 RX2 yX2_ownsEdge wsX2_ownsEdge) := goodIn_app (goodIn_of _ (by decide +kernel)) ggX2_liesInsideOrOnOwnEdges_X2_ownsEdge
theorem dX2_liesInsideOrOnOwnEdges_0 : decode cX2_liesInsideOrOnOwnEdges 0 = .ok (.iconst 0, 1) := by decide +kernel
theorem dX2_liesInsideOrOnOwnEdges_1 : decode cX2_liesInsideOrOnOwnEdges 1 = .ok (.istore 4, 2) := by decide +kernel
theorem dX2_liesInsideOrOnOwnEdges_3 : decode cX2_liesInsideOrOnOwnEdges 3 = .ok (.iload 4, 2) := by decide +kernel
theorem dX2_liesInsideOrOnOwnEdges_5 : decode cX2_liesInsideOrOnOwnEdges 5 = .ok (.iconst 3, 1) := by decide +kernel
theorem dX2_liesInsideOrOnOwnEdges_6 : decode cX2_liesInsideOrOnOwnEdges 6 = .ok (.if_icmp .ge 42, 3) := by decide +kernel
theorem dX2_liesInsideOrOnOwnEdges_9 : decode cX2_liesInsideOrOnOwnEdges 9 = .ok (.aload_n 0, 1) := by decide +kernel
theorem dX2_liesInsideOrOnOwnEdges_10 : decode cX2_liesInsideOrOnOwnEdges 10 = .ok (.iload_n 1, 1) := by decide +kernel
theorem dX2_liesInsideOrOnOwnEdges_11 : decode cX2_liesInsideOrOnOwnEdges 11 = .ok (.iload 4, 2) := by decide +kernel
theorem dX2_liesInsideOrOnOwnEdges_13 : decode cX2_liesInsideOrOnOwnEdges 13 = .ok (.iload_n 2, 1) := by decide +kernel
theorem dX2_liesInsideOrOnOwnEdges_14 : decode cX2_liesInsideOrOnOwnEdges 14 = .ok (.iload_n 3, 1) := by decide +kernel
theorem dX2_liesInsideOrOnOwnEdges_15 : decode cX2_liesInsideOrOnOwnEdges 15 = .ok (.invokevirtual 198, 3) := by decide +kernel
theorem dX2_liesInsideOrOnOwnEdges_18 : decode cX2_liesInsideOrOnOwnEdges 18 = .ok (.istore 5, 2) := by decide +kernel
theorem dX2_liesInsideOrOnOwnEdges_20 : decode cX2_liesInsideOrOnOwnEdges 20 = .ok (.iload 5, 2) := by decide +kernel
theorem dX2_liesInsideOrOnOwnEdges_22 : decode cX2_liesInsideOrOnOwnEdges 22 = .ok (.ifCond .lt 18, 3) := by decide +kernel
theorem dX2_liesInsideOrOnOwnEdges_25 : decode cX2_liesInsideOrOnOwnEdges 25 = .ok (.iload 5, 2) := by decide +kernel
theorem dX2_liesInsideOrOnOwnEdges_27 : decode cX2_liesInsideOrOnOwnEdges 27 = .ok (.ifCond .ne 15, 3) := by decide +kernel
theorem dX2_liesInsideOrOnOwnEdges_30 : decode cX2_liesInsideOrOnOwnEdges 30 = .ok (.aload_n 0, 1) := by decide +kernel
theorem dX2_liesInsideOrOnOwnEdges_31 : decode cX2_liesInsideOrOnOwnEdges 31 = .ok (.iload_n 1, 1) := by decide +kernel
theorem dX2_liesInsideOrOnOwnEdges_32 : decode cX2_liesInsideOrOnOwnEdges 32 = .ok (.iload 4, 2) := by decide +kernel
theorem dX2_liesInsideOrOnOwnEdges_34 : decode cX2_liesInsideOrOnOwnEdges 34 = .ok (.invokevirtual 207, 3) := by decide +kernel
theorem dX2_liesInsideOrOnOwnEdges_37 : decode cX2_liesInsideOrOnOwnEdges 37 = .ok (.ifCond .ne 5, 3) := by decide +kernel
theorem dX2_liesInsideOrOnOwnEdges_40 : decode cX2_liesInsideOrOnOwnEdges 40 = .ok (.iconst 0, 1) := by decide +kernel
theorem dX2_liesInsideOrOnOwnEdges_41 : decode cX2_liesInsideOrOnOwnEdges 41 = .ok (.ireturn, 1) := by decide +kernel
theorem dX2_liesInsideOrOnOwnEdges_42 : decode cX2_liesInsideOrOnOwnEdges 42 = .ok (.iinc 4 1, 3) := by decide +kernel
theorem dX2_liesInsideOrOnOwnEdges_45 : decode cX2_liesInsideOrOnOwnEdges 45 = .ok (.goto (-42), 3) := by decide +kernel
theorem dX2_liesInsideOrOnOwnEdges_48 : decode cX2_liesInsideOrOnOwnEdges 48 = .ok (.iconst 1, 1) := by decide +kernel
theorem dX2_liesInsideOrOnOwnEdges_49 : decode cX2_liesInsideOrOnOwnEdges 49 = .ok (.ireturn, 1) := by decide +kernel
set_option maxRecDepth 20000 in
theorem ggX2_ownsEdge_X1_cornerOf : GoodIn wsX2_ownsEdge wsX1_cornerOf := goodIn_r _ [7, 8, 26, 27, 28, 29] (by decide +kernel) (by decide +kernel)
set_option maxRecDepth 20000 in
theorem gX2_ownsEdge_X1_cornerOf : GoodIn wsX2_ownsEdge (wsV RX2 107 RX1 yX1_cornerOf wsX1_cornerOf) := goodIn_app (goodIn_of _ (by decide +kernel)) ggX2_ownsEdge_X1_cornerOf
set_option maxRecDepth 20000 in
theorem ggX2_ownsEdge_X0_y : GoodIn wsX2_ownsEdge wsX0_y := goodIn_r _ [13, 14, 30, 31, 32] (by decide +kernel) (by decide +kernel)
set_option maxRecDepth 20000 in
theorem gX2_ownsEdge_X0_y : GoodIn wsX2_ownsEdge (wsV RX2 210 RX0 yX0_y wsX0_y) := goodIn_app (goodIn_of _ (by decide +kernel)) ggX2_ownsEdge_X0_y
set_option maxRecDepth 20000 in
theorem ggX2_ownsEdge_X0_x : GoodIn wsX2_ownsEdge wsX0_x := goodIn_r _ [18, 19, 30, 31, 32] (by decide +kernel) (by decide +kernel)
set_option maxRecDepth 20000 in
theorem gX2_ownsEdge_X0_x : GoodIn wsX2_ownsEdge (wsV RX2 213 RX0 yX0_x wsX0_x) := goodIn_app (goodIn_of _ (by decide +kernel)) ggX2_ownsEdge_X0_x
theorem dX2_ownsEdge_0 : decode cX2_ownsEdge 0 = .ok (.aload_n 0, 1) := by decide +kernel
theorem dX2_ownsEdge_1 : decode cX2_ownsEdge 1 = .ok (.getfield 19, 3) := by decide +kernel
theorem dX2_ownsEdge_4 : decode cX2_ownsEdge 4 = .ok (.iload_n 1, 1) := by decide +kernel
theorem dX2_ownsEdge_5 : decode cX2_ownsEdge 5 = .ok (.iload_n 2, 1) := by decide +kernel
theorem dX2_ownsEdge_6 : decode cX2_ownsEdge 6 = .ok (.invokevirtual 107, 3) := by decide +kernel
theorem dX2_ownsEdge_9 : decode cX2_ownsEdge 9 = .ok (.istore_n 3, 1) := by decide +kernel
theorem dX2_ownsEdge_10 : decode cX2_ownsEdge 10 = .ok (.aload_n 0, 1) := by decide +kernel
theorem dX2_ownsEdge_11 : decode cX2_ownsEdge 11 = .ok (.getfield 19, 3) := by decide +kernel
theorem dX2_ownsEdge_14 : decode cX2_ownsEdge 14 = .ok (.iload_n 1, 1) := by decide +kernel
theorem dX2_ownsEdge_15 : decode cX2_ownsEdge 15 = .ok (.iload_n 2, 1) := by decide +kernel
theorem dX2_ownsEdge_16 : decode cX2_ownsEdge 16 = .ok (.iconst 1, 1) := by decide +kernel
theorem dX2_ownsEdge_17 : decode cX2_ownsEdge 17 = .ok (.iadd, 1) := by decide +kernel
theorem dX2_ownsEdge_18 : decode cX2_ownsEdge 18 = .ok (.invokevirtual 107, 3) := by decide +kernel
theorem dX2_ownsEdge_21 : decode cX2_ownsEdge 21 = .ok (.istore 4, 2) := by decide +kernel
theorem dX2_ownsEdge_23 : decode cX2_ownsEdge 23 = .ok (.aload_n 0, 1) := by decide +kernel
theorem dX2_ownsEdge_24 : decode cX2_ownsEdge 24 = .ok (.getfield 10, 3) := by decide +kernel
theorem dX2_ownsEdge_27 : decode cX2_ownsEdge 27 = .ok (.iload 4, 2) := by decide +kernel
theorem dX2_ownsEdge_29 : decode cX2_ownsEdge 29 = .ok (.invokevirtual 210, 3) := by decide +kernel
theorem dX2_ownsEdge_32 : decode cX2_ownsEdge 32 = .ok (.aload_n 0, 1) := by decide +kernel
theorem dX2_ownsEdge_33 : decode cX2_ownsEdge 33 = .ok (.getfield 10, 3) := by decide +kernel
theorem dX2_ownsEdge_36 : decode cX2_ownsEdge 36 = .ok (.iload_n 3, 1) := by decide +kernel
theorem dX2_ownsEdge_37 : decode cX2_ownsEdge 37 = .ok (.invokevirtual 210, 3) := by decide +kernel
theorem dX2_ownsEdge_40 : decode cX2_ownsEdge 40 = .ok (.if_icmp .lt 43, 3) := by decide +kernel
theorem dX2_ownsEdge_43 : decode cX2_ownsEdge 43 = .ok (.aload_n 0, 1) := by decide +kernel
theorem dX2_ownsEdge_44 : decode cX2_ownsEdge 44 = .ok (.getfield 10, 3) := by decide +kernel
theorem dX2_ownsEdge_47 : decode cX2_ownsEdge 47 = .ok (.iload 4, 2) := by decide +kernel
theorem dX2_ownsEdge_49 : decode cX2_ownsEdge 49 = .ok (.invokevirtual 210, 3) := by decide +kernel
theorem dX2_ownsEdge_52 : decode cX2_ownsEdge 52 = .ok (.aload_n 0, 1) := by decide +kernel
theorem dX2_ownsEdge_53 : decode cX2_ownsEdge 53 = .ok (.getfield 10, 3) := by decide +kernel
theorem dX2_ownsEdge_56 : decode cX2_ownsEdge 56 = .ok (.iload_n 3, 1) := by decide +kernel
theorem dX2_ownsEdge_57 : decode cX2_ownsEdge 57 = .ok (.invokevirtual 210, 3) := by decide +kernel
theorem dX2_ownsEdge_60 : decode cX2_ownsEdge 60 = .ok (.if_icmp .ne 27, 3) := by decide +kernel
theorem dX2_ownsEdge_63 : decode cX2_ownsEdge 63 = .ok (.aload_n 0, 1) := by decide +kernel
theorem dX2_ownsEdge_64 : decode cX2_ownsEdge 64 = .ok (.getfield 10, 3) := by decide +kernel
theorem dX2_ownsEdge_67 : decode cX2_ownsEdge 67 = .ok (.iload 4, 2) := by decide +kernel
theorem dX2_ownsEdge_69 : decode cX2_ownsEdge 69 = .ok (.invokevirtual 213, 3) := by decide +kernel
theorem dX2_ownsEdge_72 : decode cX2_ownsEdge 72 = .ok (.aload_n 0, 1) := by decide +kernel
theorem dX2_ownsEdge_73 : decode cX2_ownsEdge 73 = .ok (.getfield 10, 3) := by decide +kernel
theorem dX2_ownsEdge_76 : decode cX2_ownsEdge 76 = .ok (.iload_n 3, 1) := by decide +kernel
theorem dX2_ownsEdge_77 : decode cX2_ownsEdge 77 = .ok (.invokevirtual 213, 3) := by decide +kernel
theorem dX2_ownsEdge_80 : decode cX2_ownsEdge 80 = .ok (.if_icmp .ge 7, 3) := by decide +kernel
theorem dX2_ownsEdge_83 : decode cX2_ownsEdge 83 = .ok (.iconst 1, 1) := by decide +kernel
theorem dX2_ownsEdge_84 : decode cX2_ownsEdge 84 = .ok (.goto 4, 3) := by decide +kernel
theorem dX2_ownsEdge_87 : decode cX2_ownsEdge 87 = .ok (.iconst 0, 1) := by decide +kernel
theorem dX2_ownsEdge_88 : decode cX2_ownsEdge 88 = .ok (.ireturn, 1) := by decide +kernel
set_option maxRecDepth 20000 in
theorem ggX2_paintedPixels_X2_paintedInRow : GoodIn wsX2_paintedPixels wsX2_paintedInRow := goodIn_r _ [5, 6, 7, 8, 9, 10, 11, 12, 13, 14, 15, 16, 17, 18, 19, 20, 4, 21, 22, 23, 24, 25, 26, 27, 28, 29, 30, 31, 32, 33, 34, 35, 36, 37, 38, 39, 40, 41, 42, 43, 44, 45, 46, 47, 48, 49, 50, 51, 52, 53, 54, 55, 56, 57, 58, 59, 60, 61, 62, 63, 64, 65, 66, 67, 68, 69, 70, 71, 72, 73, 74, 75, 76, 77, 78, 79, 80, 81, 82, 83, 84, 85, 86, 87, 88, 89, 90, 91, 92, 93, 94, 95, 96, 97, 98, 99, 100, 101, 102, 103, 104, 105, 106, 107, 108, 109, 110, 111, 112, 113, 114, 115, 116, 117, 118, 119, 120, 121] (by decide +kernel) (by decide +kernel)
set_option maxRecDepth 20000 in
theorem gX2_paintedPixels_X2_paintedInRow : GoodIn wsX2_paintedPixels (wsV RX2 216 RX2 yX2_paintedInRow wsX2_paintedInRow) := goodIn_app (goodIn_of _ (by decide +kernel)) ggX2_paintedPixels_X2_paintedInRow
theorem dX2_paintedPixels_0 : decode cX2_paintedPixels 0 = .ok (.lconst 0, 1) := by decide +kernel
theorem dX2_paintedPixels_1 : decode cX2_paintedPixels 1 = .ok (.lstore_n 2, 1) := by decide +kernel
theorem dX2_paintedPixels_2 : decode cX2_paintedPixels 2 = .ok (.iconst 0, 1) := by decide +kernel
theorem dX2_paintedPixels_3 : decode cX2_paintedPixels 3 = .ok (.istore 4, 2) := by decide +kernel
theorem dX2_paintedPixels_5 : decode cX2_paintedPixels 5 = .ok (.iload 4, 2) := by decide +kernel
theorem dX2_paintedPixels_7 : decode cX2_paintedPixels 7 = .ok (.bipush 32, 2) := by decide +kernel
theorem dX2_paintedPixels_9 : decode cX2_paintedPixels 9 = .ok (.if_icmp .ge 20, 3) := by decide +kernel
theorem dX2_paintedPixels_12 : decode cX2_paintedPixels 12 = .ok (.lload_n 2, 1) := by decide +kernel
theorem dX2_paintedPixels_13 : decode cX2_paintedPixels 13 = .ok (.aload_n 0, 1) := by decide +kernel
theorem dX2_paintedPixels_14 : decode cX2_paintedPixels 14 = .ok (.iload 4, 2) := by decide +kernel
theorem dX2_paintedPixels_16 : decode cX2_paintedPixels 16 = .ok (.iload_n 1, 1) := by decide +kernel
theorem dX2_paintedPixels_17 : decode cX2_paintedPixels 17 = .ok (.invokevirtual 216, 3) := by decide +kernel
theorem dX2_paintedPixels_20 : decode cX2_paintedPixels 20 = .ok (.i2l, 1) := by decide +kernel
theorem dX2_paintedPixels_21 : decode cX2_paintedPixels 21 = .ok (.ladd, 1) := by decide +kernel
theorem dX2_paintedPixels_22 : decode cX2_paintedPixels 22 = .ok (.lstore_n 2, 1) := by decide +kernel
theorem dX2_paintedPixels_23 : decode cX2_paintedPixels 23 = .ok (.iinc 4 1, 3) := by decide +kernel
theorem dX2_paintedPixels_26 : decode cX2_paintedPixels 26 = .ok (.goto (-21), 3) := by decide +kernel
theorem dX2_paintedPixels_29 : decode cX2_paintedPixels 29 = .ok (.lload_n 2, 1) := by decide +kernel
theorem dX2_paintedPixels_30 : decode cX2_paintedPixels 30 = .ok (.lreturn, 1) := by decide +kernel
set_option maxRecDepth 20000 in
theorem ggX2_paintedInRow_X1_thereCount : GoodIn wsX2_paintedInRow wsX1_thereCount := goodIn_r _ [6, 7, 111, 112, 113, 114] (by decide +kernel) (by decide +kernel)
set_option maxRecDepth 20000 in
theorem gX2_paintedInRow_X1_thereCount : GoodIn wsX2_paintedInRow (wsV RX2 127 RX1 yX1_thereCount wsX1_thereCount) := goodIn_app (goodIn_of _ (by decide +kernel)) ggX2_paintedInRow_X1_thereCount
set_option maxRecDepth 20000 in
theorem ggX2_paintedInRow_X1_numberAt : GoodIn wsX2_paintedInRow wsX1_numberAt := goodIn_r _ [11, 12, 111, 112, 113, 114] (by decide +kernel) (by decide +kernel)
set_option maxRecDepth 20000 in
theorem gX2_paintedInRow_X1_numberAt : GoodIn wsX2_paintedInRow (wsV RX2 131 RX1 yX1_numberAt wsX1_numberAt) := goodIn_app (goodIn_of _ (by decide +kernel)) ggX2_paintedInRow_X1_numberAt
set_option maxRecDepth 20000 in
theorem ggX2_paintedInRow_X2_coveredBits : GoodIn wsX2_paintedInRow wsX2_coveredBits := goodIn_r _ [17, 18, 19, 20, 16, 21, 22, 23, 24, 25, 26, 27, 28, 29, 30, 1, 31, 32, 33, 5, 34, 35, 36, 37, 38, 39, 40, 41, 42, 43, 44, 45, 46, 47, 48, 49, 50, 51, 52, 53, 54, 55, 56, 57, 58, 59, 60, 61, 62, 63, 64, 65, 66, 67, 68, 69, 70, 71, 72, 73, 74, 75, 76, 77, 78, 79, 80, 81, 82, 83, 84, 85, 86, 87, 88, 89, 90, 91, 92, 93, 94, 95, 96, 97, 105, 106, 107, 108, 109, 110, 111, 112, 113, 114, 115, 116, 117] (by decide +kernel) (by decide +kernel)
set_option maxRecDepth 20000 in
theorem gX2_paintedInRow_X2_coveredBits : GoodIn wsX2_paintedInRow (wsV RX2 219 RX2 yX2_coveredBits wsX2_coveredBits) := goodIn_app (goodIn_of _ (by decide +kernel)) ggX2_paintedInRow_X2_coveredBits
set_option maxRecDepth 20000 in
theorem ggX2_paintedInRow_J6_bitCount_0f7a4 : GoodIn wsX2_paintedInRow wsJ6_bitCount_0f7a4 := goodIn_r _ [101, 102, 103, 104] (by decide +kernel) (by decide +kernel)
set_option maxRecDepth 20000 in
theorem gX2_paintedInRow_J6_bitCount_0f7a4 : GoodIn wsX2_paintedInRow (va_wsS RX2 222 yJ6_bitCount_0f7a4 wsJ6_bitCount_0f7a4) := goodIn_app (goodIn_of _ (by decide +kernel)) ggX2_paintedInRow_J6_bitCount_0f7a4
theorem dX2_paintedInRow_0 : decode cX2_paintedInRow 0 = .ok (.iconst 0, 1) := by decide +kernel
theorem dX2_paintedInRow_1 : decode cX2_paintedInRow 1 = .ok (.istore_n 3, 1) := by decide +kernel
theorem dX2_paintedInRow_2 : decode cX2_paintedInRow 2 = .ok (.iconst 0, 1) := by decide +kernel
theorem dX2_paintedInRow_3 : decode cX2_paintedInRow 3 = .ok (.istore 4, 2) := by decide +kernel
theorem dX2_paintedInRow_5 : decode cX2_paintedInRow 5 = .ok (.iconst 0, 1) := by decide +kernel
theorem dX2_paintedInRow_6 : decode cX2_paintedInRow 6 = .ok (.istore 5, 2) := by decide +kernel
theorem dX2_paintedInRow_8 : decode cX2_paintedInRow 8 = .ok (.iconst 0, 1) := by decide +kernel
theorem dX2_paintedInRow_9 : decode cX2_paintedInRow 9 = .ok (.istore 6, 2) := by decide +kernel
theorem dX2_paintedInRow_11 : decode cX2_paintedInRow 11 = .ok (.iload 6, 2) := by decide +kernel
theorem dX2_paintedInRow_13 : decode cX2_paintedInRow 13 = .ok (.aload_n 0, 1) := by decide +kernel
theorem dX2_paintedInRow_14 : decode cX2_paintedInRow 14 = .ok (.getfield 19, 3) := by decide +kernel
theorem dX2_paintedInRow_17 : decode cX2_paintedInRow 17 = .ok (.invokevirtual 127, 3) := by decide +kernel
theorem dX2_paintedInRow_20 : decode cX2_paintedInRow 20 = .ok (.if_icmp .ge 49, 3) := by decide +kernel
theorem dX2_paintedInRow_23 : decode cX2_paintedInRow 23 = .ok (.aload_n 0, 1) := by decide +kernel
theorem dX2_paintedInRow_24 : decode cX2_paintedInRow 24 = .ok (.aload_n 0, 1) := by decide +kernel
theorem dX2_paintedInRow_25 : decode cX2_paintedInRow 25 = .ok (.getfield 19, 3) := by decide +kernel
theorem dX2_paintedInRow_28 : decode cX2_paintedInRow 28 = .ok (.iload 6, 2) := by decide +kernel
theorem dX2_paintedInRow_30 : decode cX2_paintedInRow 30 = .ok (.invokevirtual 131, 3) := by decide +kernel
theorem dX2_paintedInRow_33 : decode cX2_paintedInRow 33 = .ok (.iload_n 1, 1) := by decide +kernel
theorem dX2_paintedInRow_34 : decode cX2_paintedInRow 34 = .ok (.invokevirtual 219, 3) := by decide +kernel
theorem dX2_paintedInRow_37 : decode cX2_paintedInRow 37 = .ok (.istore 7, 2) := by decide +kernel
theorem dX2_paintedInRow_39 : decode cX2_paintedInRow 39 = .ok (.iload 4, 2) := by decide +kernel
theorem dX2_paintedInRow_41 : decode cX2_paintedInRow 41 = .ok (.iload_n 3, 1) := by decide +kernel
theorem dX2_paintedInRow_42 : decode cX2_paintedInRow 42 = .ok (.iload 7, 2) := by decide +kernel
theorem dX2_paintedInRow_44 : decode cX2_paintedInRow 44 = .ok (.iand, 1) := by decide +kernel
theorem dX2_paintedInRow_45 : decode cX2_paintedInRow 45 = .ok (.ior, 1) := by decide +kernel
theorem dX2_paintedInRow_46 : decode cX2_paintedInRow 46 = .ok (.istore 4, 2) := by decide +kernel
theorem dX2_paintedInRow_48 : decode cX2_paintedInRow 48 = .ok (.iload_n 3, 1) := by decide +kernel
theorem dX2_paintedInRow_49 : decode cX2_paintedInRow 49 = .ok (.iload 7, 2) := by decide +kernel
theorem dX2_paintedInRow_51 : decode cX2_paintedInRow 51 = .ok (.ior, 1) := by decide +kernel
theorem dX2_paintedInRow_52 : decode cX2_paintedInRow 52 = .ok (.istore_n 3, 1) := by decide +kernel
theorem dX2_paintedInRow_53 : decode cX2_paintedInRow 53 = .ok (.iload 5, 2) := by decide +kernel
theorem dX2_paintedInRow_55 : decode cX2_paintedInRow 55 = .ok (.iload 7, 2) := by decide +kernel
theorem dX2_paintedInRow_57 : decode cX2_paintedInRow 57 = .ok (.invokestatic 222, 3) := by decide +kernel
theorem dX2_paintedInRow_60 : decode cX2_paintedInRow 60 = .ok (.iadd, 1) := by decide +kernel
theorem dX2_paintedInRow_61 : decode cX2_paintedInRow 61 = .ok (.istore 5, 2) := by decide +kernel
theorem dX2_paintedInRow_63 : decode cX2_paintedInRow 63 = .ok (.iinc 6 1, 3) := by decide +kernel
theorem dX2_paintedInRow_66 : decode cX2_paintedInRow 66 = .ok (.goto (-55), 3) := by decide +kernel
theorem dX2_paintedInRow_69 : decode cX2_paintedInRow 69 = .ok (.iload_n 2, 1) := by decide +kernel
theorem dX2_paintedInRow_70 : decode cX2_paintedInRow 70 = .ok (.lookupswitch 37 #[(0, 26), (1, 31)], 26) := by decide +kernel
theorem dX2_paintedInRow_96 : decode cX2_paintedInRow 96 = .ok (.iload_n 3, 1) := by decide +kernel
theorem dX2_paintedInRow_97 : decode cX2_paintedInRow 97 = .ok (.invokestatic 222, 3) := by decide +kernel
theorem dX2_paintedInRow_100 : decode cX2_paintedInRow 100 = .ok (.ireturn, 1) := by decide +kernel
theorem dX2_paintedInRow_101 : decode cX2_paintedInRow 101 = .ok (.iload 4, 2) := by decide +kernel
theorem dX2_paintedInRow_103 : decode cX2_paintedInRow 103 = .ok (.invokestatic 222, 3) := by decide +kernel
theorem dX2_paintedInRow_106 : decode cX2_paintedInRow 106 = .ok (.ireturn, 1) := by decide +kernel
theorem dX2_paintedInRow_107 : decode cX2_paintedInRow 107 = .ok (.iload 5, 2) := by decide +kernel
theorem dX2_paintedInRow_109 : decode cX2_paintedInRow 109 = .ok (.ireturn, 1) := by decide +kernel
set_option maxRecDepth 20000 in
theorem ggX2_coveredBits_X2_lowest : GoodIn wsX2_coveredBits wsX2_lowest := goodIn_r _ [5, 6, 7, 8, 9, 10, 11, 12, 4, 13, 14, 15, 16, 17, 18, 19, 20, 21, 22, 23, 24, 25, 26, 27, 84, 85, 86, 87, 88, 89, 90, 91, 92, 93, 94, 95, 96] (by decide +kernel) (by decide +kernel)
set_option maxRecDepth 20000 in
theorem gX2_coveredBits_X2_lowest : GoodIn wsX2_coveredBits (wsV RX2 227 RX2 yX2_lowest wsX2_lowest) := goodIn_app (goodIn_of _ (by decide +kernel)) ggX2_coveredBits_X2_lowest
set_option maxRecDepth 20000 in
theorem ggX2_coveredBits_X2_highest : GoodIn wsX2_coveredBits wsX2_highest := goodIn_r _ [31, 32, 33, 8, 34, 10, 11, 12, 4, 13, 14, 15, 16, 17, 18, 19, 20, 21, 22, 23, 24, 25, 26, 27, 84, 85, 86, 87, 88, 89, 90, 91, 92, 93, 94, 95, 96] (by decide +kernel) (by decide +kernel)
