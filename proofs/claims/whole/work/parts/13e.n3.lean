theorem dX3_locate_24 : decode cX3_locate 24 = .ok (.aload_n 0, 1) := by decide +kernel
theorem dX3_locate_25 : decode cX3_locate 25 = .ok (.iload_n 3, 1) := by decide +kernel
theorem dX3_locate_26 : decode cX3_locate 26 = .ok (.invokevirtual 85, 3) := by decide +kernel
theorem dX3_locate_29 : decode cX3_locate 29 = .ok (.ifCond .eq 17, 3) := by decide +kernel
theorem dX3_locate_32 : decode cX3_locate 32 = .ok (.aload_n 0, 1) := by decide +kernel
theorem dX3_locate_33 : decode cX3_locate 33 = .ok (.iload_n 3, 1) := by decide +kernel
theorem dX3_locate_34 : decode cX3_locate 34 = .ok (.iload_n 1, 1) := by decide +kernel
theorem dX3_locate_35 : decode cX3_locate 35 = .ok (.i2l, 1) := by decide +kernel
theorem dX3_locate_36 : decode cX3_locate 36 = .ok (.iload_n 2, 1) := by decide +kernel
theorem dX3_locate_37 : decode cX3_locate 37 = .ok (.i2l, 1) := by decide +kernel
theorem dX3_locate_38 : decode cX3_locate 38 = .ok (.invokevirtual 73, 3) := by decide +kernel
theorem dX3_locate_41 : decode cX3_locate 41 = .ok (.ifCond .eq 5, 3) := by decide +kernel
theorem dX3_locate_44 : decode cX3_locate 44 = .ok (.iload_n 3, 1) := by decide +kernel
theorem dX3_locate_45 : decode cX3_locate 45 = .ok (.ireturn, 1) := by decide +kernel
theorem dX3_locate_46 : decode cX3_locate 46 = .ok (.iinc 3 1, 3) := by decide +kernel
theorem dX3_locate_49 : decode cX3_locate 49 = .ok (.goto (-42), 3) := by decide +kernel
theorem dX3_locate_52 : decode cX3_locate 52 = .ok (.iconst (-1), 1) := by decide +kernel
theorem dX3_locate_53 : decode cX3_locate 53 = .ok (.ireturn, 1) := by decide +kernel
set_option maxRecDepth 20000 in
theorem ggX3_beside_X3_isThere : GoodIn wsX3_beside wsX3_isThere := goodIn_r _ [6, 7, 8, 9, 10, 5, 11, 21, 22, 23, 24, 25, 26, 27, 28, 29, 30, 31] (by decide +kernel) (by decide +kernel)
set_option maxRecDepth 20000 in
theorem gX3_beside_X3_isThere : GoodIn wsX3_beside (wsV RX3 81 RX3 yX3_isThere wsX3_isThere) := goodIn_app (goodIn_of _ (by decide +kernel)) ggX3_beside_X3_isThere
set_option maxRecDepth 20000 in
theorem ggX3_beside_X3_in : GoodIn wsX3_beside wsX3_in := goodIn_r _ [11] (by decide +kernel) (by decide +kernel)
set_option maxRecDepth 20000 in
theorem gX3_beside_X3_in : GoodIn wsX3_beside (va_wsS RX3 46 yX3_in wsX3_in) := goodIn_app (goodIn_of _ (by decide +kernel)) ggX3_beside_X3_in
set_option maxRecDepth 20000 in
theorem ggX3_beside_X3_neighbour : GoodIn wsX3_beside wsX3_neighbour := goodIn_r _ [15, 7, 8, 16, 17, 18, 5, 19, 20, 21, 22, 23, 24, 25, 26, 27, 28, 29, 30, 31] (by decide +kernel) (by decide +kernel)
set_option maxRecDepth 20000 in
theorem gX3_beside_X3_neighbour : GoodIn wsX3_beside (wsV RX3 91 RX3 yX3_neighbour wsX3_neighbour) := goodIn_app (goodIn_of _ (by decide +kernel)) ggX3_beside_X3_neighbour
theorem dX3_beside_0 : decode cX3_beside 0 = .ok (.aload_n 0, 1) := by decide +kernel
theorem dX3_beside_1 : decode cX3_beside 1 = .ok (.iconst 0, 1) := by decide +kernel
theorem dX3_beside_2 : decode cX3_beside 2 = .ok (.putfield 33, 3) := by decide +kernel
theorem dX3_beside_5 : decode cX3_beside 5 = .ok (.aload_n 0, 1) := by decide +kernel
theorem dX3_beside_6 : decode cX3_beside 6 = .ok (.iload_n 1, 1) := by decide +kernel
theorem dX3_beside_7 : decode cX3_beside 7 = .ok (.invokevirtual 81, 3) := by decide +kernel
theorem dX3_beside_10 : decode cX3_beside 10 = .ok (.ifCond .eq 20, 3) := by decide +kernel
theorem dX3_beside_13 : decode cX3_beside 13 = .ok (.iload_n 2, 1) := by decide +kernel
theorem dX3_beside_14 : decode cX3_beside 14 = .ok (.iconst 3, 1) := by decide +kernel
theorem dX3_beside_15 : decode cX3_beside 15 = .ok (.invokestatic 46, 3) := by decide +kernel
theorem dX3_beside_18 : decode cX3_beside 18 = .ok (.ifCond .eq 12, 3) := by decide +kernel
theorem dX3_beside_21 : decode cX3_beside 21 = .ok (.aload_n 0, 1) := by decide +kernel
theorem dX3_beside_22 : decode cX3_beside 22 = .ok (.iload_n 1, 1) := by decide +kernel
theorem dX3_beside_23 : decode cX3_beside 23 = .ok (.iload_n 2, 1) := by decide +kernel
theorem dX3_beside_24 : decode cX3_beside 24 = .ok (.invokevirtual 91, 3) := by decide +kernel
theorem dX3_beside_27 : decode cX3_beside 27 = .ok (.goto 4, 3) := by decide +kernel
theorem dX3_beside_30 : decode cX3_beside 30 = .ok (.iconst (-1), 1) := by decide +kernel
theorem dX3_beside_31 : decode cX3_beside 31 = .ok (.ireturn, 1) := by decide +kernel
set_option maxRecDepth 20000 in
theorem ggX3_isGood_X3_isThere : GoodIn wsX3_isGood wsX3_isThere := goodIn_r _ [6, 7, 8, 9, 10, 5, 11, 34, 35, 36, 37, 38, 39, 40, 41, 42, 43, 44] (by decide +kernel) (by decide +kernel)
set_option maxRecDepth 20000 in
theorem gX3_isGood_X3_isThere : GoodIn wsX3_isGood (wsV RX3 81 RX3 yX3_isThere wsX3_isThere) := goodIn_app (goodIn_of _ (by decide +kernel)) ggX3_isGood_X3_isThere
set_option maxRecDepth 20000 in
theorem ggX3_isGood_X3_in : GoodIn wsX3_isGood wsX3_in := goodIn_r _ [11] (by decide +kernel) (by decide +kernel)
set_option maxRecDepth 20000 in
theorem gX3_isGood_X3_in : GoodIn wsX3_isGood (va_wsS RX3 46 yX3_in wsX3_in) := goodIn_app (goodIn_of _ (by decide +kernel)) ggX3_isGood_X3_in
set_option maxRecDepth 20000 in
theorem ggX3_isGood_X3_good : GoodIn wsX3_isGood wsX3_good := goodIn_r _ [15, 16, 17, 18, 19, 20, 5, 21, 7, 8, 22, 23, 24, 25, 26, 27, 28, 29, 30, 31, 32, 33, 34, 35, 36, 37, 38, 39, 40, 41, 42, 43, 44] (by decide +kernel) (by decide +kernel)
set_option maxRecDepth 20000 in
theorem gX3_isGood_X3_good : GoodIn wsX3_isGood (wsV RX3 124 RX3 yX3_good wsX3_good) := goodIn_app (goodIn_of _ (by decide +kernel)) ggX3_isGood_X3_good
theorem dX3_isGood_0 : decode cX3_isGood 0 = .ok (.aload_n 0, 1) := by decide +kernel
theorem dX3_isGood_1 : decode cX3_isGood 1 = .ok (.iconst 0, 1) := by decide +kernel
theorem dX3_isGood_2 : decode cX3_isGood 2 = .ok (.putfield 33, 3) := by decide +kernel
theorem dX3_isGood_5 : decode cX3_isGood 5 = .ok (.aload_n 0, 1) := by decide +kernel
theorem dX3_isGood_6 : decode cX3_isGood 6 = .ok (.iload_n 1, 1) := by decide +kernel
theorem dX3_isGood_7 : decode cX3_isGood 7 = .ok (.invokevirtual 81, 3) := by decide +kernel
theorem dX3_isGood_10 : decode cX3_isGood 10 = .ok (.ifCond .eq 24, 3) := by decide +kernel
theorem dX3_isGood_13 : decode cX3_isGood 13 = .ok (.iload_n 2, 1) := by decide +kernel
theorem dX3_isGood_14 : decode cX3_isGood 14 = .ok (.iconst 3, 1) := by decide +kernel
theorem dX3_isGood_15 : decode cX3_isGood 15 = .ok (.invokestatic 46, 3) := by decide +kernel
theorem dX3_isGood_18 : decode cX3_isGood 18 = .ok (.ifCond .eq 16, 3) := by decide +kernel
theorem dX3_isGood_21 : decode cX3_isGood 21 = .ok (.aload_n 0, 1) := by decide +kernel
theorem dX3_isGood_22 : decode cX3_isGood 22 = .ok (.iload_n 1, 1) := by decide +kernel
theorem dX3_isGood_23 : decode cX3_isGood 23 = .ok (.iload_n 2, 1) := by decide +kernel
theorem dX3_isGood_24 : decode cX3_isGood 24 = .ok (.invokevirtual 124, 3) := by decide +kernel
theorem dX3_isGood_27 : decode cX3_isGood 27 = .ok (.ifCond .eq 7, 3) := by decide +kernel
theorem dX3_isGood_30 : decode cX3_isGood 30 = .ok (.iconst 1, 1) := by decide +kernel
theorem dX3_isGood_31 : decode cX3_isGood 31 = .ok (.goto 4, 3) := by decide +kernel
theorem dX3_isGood_34 : decode cX3_isGood 34 = .ok (.iconst 0, 1) := by decide +kernel
theorem dX3_isGood_35 : decode cX3_isGood 35 = .ok (.ireturn, 1) := by decide +kernel
set_option maxRecDepth 20000 in
theorem ggX3_corner_X3_isThere : GoodIn wsX3_corner wsX3_isThere := goodIn_r _ [6, 7, 8, 9, 10, 5, 11, 17, 18, 19, 20, 21, 22, 23, 24, 25, 26, 27] (by decide +kernel) (by decide +kernel)
set_option maxRecDepth 20000 in
theorem gX3_corner_X3_isThere : GoodIn wsX3_corner (wsV RX3 81 RX3 yX3_isThere wsX3_isThere) := goodIn_app (goodIn_of _ (by decide +kernel)) ggX3_corner_X3_isThere
set_option maxRecDepth 20000 in
theorem ggX3_corner_X3_in : GoodIn wsX3_corner wsX3_in := goodIn_r _ [11] (by decide +kernel) (by decide +kernel)
set_option maxRecDepth 20000 in
theorem gX3_corner_X3_in : GoodIn wsX3_corner (va_wsS RX3 46 yX3_in wsX3_in) := goodIn_app (goodIn_of _ (by decide +kernel)) ggX3_corner_X3_in
set_option maxRecDepth 20000 in
theorem ggX3_corner_X3_at : GoodIn wsX3_corner wsX3_at := goodIn_r _ [15, 16, 17, 18, 19, 20, 21, 22, 23, 24, 25, 26, 27] (by decide +kernel) (by decide +kernel)
set_option maxRecDepth 20000 in
theorem gX3_corner_X3_at : GoodIn wsX3_corner (wsV RX3 50 RX3 yX3_at wsX3_at) := goodIn_app (goodIn_of _ (by decide +kernel)) ggX3_corner_X3_at
theorem dX3_corner_0 : decode cX3_corner 0 = .ok (.aload_n 0, 1) := by decide +kernel
theorem dX3_corner_1 : decode cX3_corner 1 = .ok (.iconst 0, 1) := by decide +kernel
theorem dX3_corner_2 : decode cX3_corner 2 = .ok (.putfield 33, 3) := by decide +kernel
theorem dX3_corner_5 : decode cX3_corner 5 = .ok (.aload_n 0, 1) := by decide +kernel
theorem dX3_corner_6 : decode cX3_corner 6 = .ok (.iload_n 1, 1) := by decide +kernel
theorem dX3_corner_7 : decode cX3_corner 7 = .ok (.invokevirtual 81, 3) := by decide +kernel
theorem dX3_corner_10 : decode cX3_corner 10 = .ok (.ifCond .eq 20, 3) := by decide +kernel
theorem dX3_corner_13 : decode cX3_corner 13 = .ok (.iload_n 2, 1) := by decide +kernel
theorem dX3_corner_14 : decode cX3_corner 14 = .ok (.iconst 3, 1) := by decide +kernel
theorem dX3_corner_15 : decode cX3_corner 15 = .ok (.invokestatic 46, 3) := by decide +kernel
theorem dX3_corner_18 : decode cX3_corner 18 = .ok (.ifCond .eq 12, 3) := by decide +kernel
theorem dX3_corner_21 : decode cX3_corner 21 = .ok (.aload_n 0, 1) := by decide +kernel
theorem dX3_corner_22 : decode cX3_corner 22 = .ok (.iload_n 1, 1) := by decide +kernel
theorem dX3_corner_23 : decode cX3_corner 23 = .ok (.iload_n 2, 1) := by decide +kernel
theorem dX3_corner_24 : decode cX3_corner 24 = .ok (.invokevirtual 50, 3) := by decide +kernel
theorem dX3_corner_27 : decode cX3_corner 27 = .ok (.goto 4, 3) := by decide +kernel
theorem dX3_corner_30 : decode cX3_corner 30 = .ok (.iconst (-1), 1) := by decide +kernel
theorem dX3_corner_31 : decode cX3_corner 31 = .ok (.ireturn, 1) := by decide +kernel
set_option maxRecDepth 20000 in
theorem ggX3_cornerPoints_X3_isCorner : GoodIn wsX3_cornerPoints wsX3_isCorner := goodIn_r _ [8, 9, 10, 11, 7, 12, 13, 14, 15, 16, 17, 18, 19, 20, 21, 22, 23, 24] (by decide +kernel) (by decide +kernel)
set_option maxRecDepth 20000 in
theorem gX3_cornerPoints_X3_isCorner : GoodIn wsX3_cornerPoints (wsV RX3 70 RX3 yX3_isCorner wsX3_isCorner) := goodIn_app (goodIn_of _ (by decide +kernel)) ggX3_cornerPoints_X3_isCorner
theorem dX3_cornerPoints_0 : decode cX3_cornerPoints 0 = .ok (.iconst 0, 1) := by decide +kernel
theorem dX3_cornerPoints_1 : decode cX3_cornerPoints 1 = .ok (.istore_n 1, 1) := by decide +kernel
theorem dX3_cornerPoints_2 : decode cX3_cornerPoints 2 = .ok (.iconst 0, 1) := by decide +kernel
theorem dX3_cornerPoints_3 : decode cX3_cornerPoints 3 = .ok (.istore_n 2, 1) := by decide +kernel
theorem dX3_cornerPoints_4 : decode cX3_cornerPoints 4 = .ok (.iload_n 2, 1) := by decide +kernel
theorem dX3_cornerPoints_5 : decode cX3_cornerPoints 5 = .ok (.aload_n 0, 1) := by decide +kernel
theorem dX3_cornerPoints_6 : decode cX3_cornerPoints 6 = .ok (.getfield 40, 3) := by decide +kernel
theorem dX3_cornerPoints_9 : decode cX3_cornerPoints 9 = .ok (.if_icmp .ge 71, 3) := by decide +kernel
theorem dX3_cornerPoints_12 : decode cX3_cornerPoints 12 = .ok (.iconst 0, 1) := by decide +kernel
theorem dX3_cornerPoints_13 : decode cX3_cornerPoints 13 = .ok (.istore_n 3, 1) := by decide +kernel
theorem dX3_cornerPoints_14 : decode cX3_cornerPoints 14 = .ok (.iconst 0, 1) := by decide +kernel
theorem dX3_cornerPoints_15 : decode cX3_cornerPoints 15 = .ok (.istore 4, 2) := by decide +kernel
theorem dX3_cornerPoints_17 : decode cX3_cornerPoints 17 = .ok (.iload 4, 2) := by decide +kernel
theorem dX3_cornerPoints_19 : decode cX3_cornerPoints 19 = .ok (.aload_n 0, 1) := by decide +kernel
theorem dX3_cornerPoints_20 : decode cX3_cornerPoints 20 = .ok (.getfield 43, 3) := by decide +kernel
theorem dX3_cornerPoints_23 : decode cX3_cornerPoints 23 = .ok (.if_icmp .ge 39, 3) := by decide +kernel
theorem dX3_cornerPoints_26 : decode cX3_cornerPoints 26 = .ok (.iload_n 3, 1) := by decide +kernel
theorem dX3_cornerPoints_27 : decode cX3_cornerPoints 27 = .ok (.ifCond .ne 23, 3) := by decide +kernel
theorem dX3_cornerPoints_30 : decode cX3_cornerPoints 30 = .ok (.aload_n 0, 1) := by decide +kernel
theorem dX3_cornerPoints_31 : decode cX3_cornerPoints 31 = .ok (.getfield 16, 3) := by decide +kernel
theorem dX3_cornerPoints_34 : decode cX3_cornerPoints 34 = .ok (.iload 4, 2) := by decide +kernel
theorem dX3_cornerPoints_36 : decode cX3_cornerPoints 36 = .ok (.baload, 1) := by decide +kernel
theorem dX3_cornerPoints_37 : decode cX3_cornerPoints 37 = .ok (.ifCond .eq 17, 3) := by decide +kernel
theorem dX3_cornerPoints_40 : decode cX3_cornerPoints 40 = .ok (.aload_n 0, 1) := by decide +kernel
theorem dX3_cornerPoints_41 : decode cX3_cornerPoints 41 = .ok (.iload 4, 2) := by decide +kernel
theorem dX3_cornerPoints_43 : decode cX3_cornerPoints 43 = .ok (.iload_n 2, 1) := by decide +kernel
theorem dX3_cornerPoints_44 : decode cX3_cornerPoints 44 = .ok (.invokevirtual 70, 3) := by decide +kernel
theorem dX3_cornerPoints_47 : decode cX3_cornerPoints 47 = .ok (.ifCond .eq 7, 3) := by decide +kernel
theorem dX3_cornerPoints_50 : decode cX3_cornerPoints 50 = .ok (.iconst 1, 1) := by decide +kernel
theorem dX3_cornerPoints_51 : decode cX3_cornerPoints 51 = .ok (.goto 4, 3) := by decide +kernel
theorem dX3_cornerPoints_54 : decode cX3_cornerPoints 54 = .ok (.iconst 0, 1) := by decide +kernel
theorem dX3_cornerPoints_55 : decode cX3_cornerPoints 55 = .ok (.istore_n 3, 1) := by decide +kernel
theorem dX3_cornerPoints_56 : decode cX3_cornerPoints 56 = .ok (.iinc 4 1, 3) := by decide +kernel
theorem dX3_cornerPoints_59 : decode cX3_cornerPoints 59 = .ok (.goto (-42), 3) := by decide +kernel
theorem dX3_cornerPoints_62 : decode cX3_cornerPoints 62 = .ok (.iload_n 1, 1) := by decide +kernel
theorem dX3_cornerPoints_63 : decode cX3_cornerPoints 63 = .ok (.iload_n 3, 1) := by decide +kernel
theorem dX3_cornerPoints_64 : decode cX3_cornerPoints 64 = .ok (.ifCond .eq 7, 3) := by decide +kernel
theorem dX3_cornerPoints_67 : decode cX3_cornerPoints 67 = .ok (.iconst 1, 1) := by decide +kernel
theorem dX3_cornerPoints_68 : decode cX3_cornerPoints 68 = .ok (.goto 4, 3) := by decide +kernel
theorem dX3_cornerPoints_71 : decode cX3_cornerPoints 71 = .ok (.iconst 0, 1) := by decide +kernel
theorem dX3_cornerPoints_72 : decode cX3_cornerPoints 72 = .ok (.iadd, 1) := by decide +kernel
theorem dX3_cornerPoints_73 : decode cX3_cornerPoints 73 = .ok (.istore_n 1, 1) := by decide +kernel
theorem dX3_cornerPoints_74 : decode cX3_cornerPoints 74 = .ok (.iinc 2 1, 3) := by decide +kernel
theorem dX3_cornerPoints_77 : decode cX3_cornerPoints 77 = .ok (.goto (-73), 3) := by decide +kernel
theorem dX3_cornerPoints_80 : decode cX3_cornerPoints 80 = .ok (.iload_n 1, 1) := by decide +kernel
theorem dX3_cornerPoints_81 : decode cX3_cornerPoints 81 = .ok (.ireturn, 1) := by decide +kernel
set_option maxRecDepth 20000 in
theorem ggX3_hasSide_X3_at : GoodIn wsX3_hasSide wsX3_at := goodIn_r _ [5, 6, 7, 8, 9, 10, 11, 12, 13, 14, 15, 16, 17] (by decide +kernel) (by decide +kernel)
set_option maxRecDepth 20000 in
theorem gX3_hasSide_X3_at : GoodIn wsX3_hasSide (wsV RX3 50 RX3 yX3_at wsX3_at) := goodIn_app (goodIn_of _ (by decide +kernel)) ggX3_hasSide_X3_at
theorem dX3_hasSide_0 : decode cX3_hasSide 0 = .ok (.iconst 0, 1) := by decide +kernel
theorem dX3_hasSide_1 : decode cX3_hasSide 1 = .ok (.istore 4, 2) := by decide +kernel
theorem dX3_hasSide_3 : decode cX3_hasSide 3 = .ok (.iload 4, 2) := by decide +kernel
theorem dX3_hasSide_5 : decode cX3_hasSide 5 = .ok (.iconst 3, 1) := by decide +kernel
theorem dX3_hasSide_6 : decode cX3_hasSide 6 = .ok (.if_icmp .ge 59, 3) := by decide +kernel
theorem dX3_hasSide_9 : decode cX3_hasSide 9 = .ok (.aload_n 0, 1) := by decide +kernel
theorem dX3_hasSide_10 : decode cX3_hasSide 10 = .ok (.iload_n 1, 1) := by decide +kernel
theorem dX3_hasSide_11 : decode cX3_hasSide 11 = .ok (.iload 4, 2) := by decide +kernel
theorem dX3_hasSide_13 : decode cX3_hasSide 13 = .ok (.invokevirtual 50, 3) := by decide +kernel
theorem dX3_hasSide_16 : decode cX3_hasSide 16 = .ok (.iload_n 2, 1) := by decide +kernel
theorem dX3_hasSide_17 : decode cX3_hasSide 17 = .ok (.if_icmp .ne 16, 3) := by decide +kernel
theorem dX3_hasSide_20 : decode cX3_hasSide 20 = .ok (.aload_n 0, 1) := by decide +kernel
theorem dX3_hasSide_21 : decode cX3_hasSide 21 = .ok (.iload_n 1, 1) := by decide +kernel
theorem dX3_hasSide_22 : decode cX3_hasSide 22 = .ok (.iload 4, 2) := by decide +kernel
theorem dX3_hasSide_24 : decode cX3_hasSide 24 = .ok (.iconst 1, 1) := by decide +kernel
theorem dX3_hasSide_25 : decode cX3_hasSide 25 = .ok (.iadd, 1) := by decide +kernel
theorem dX3_hasSide_26 : decode cX3_hasSide 26 = .ok (.invokevirtual 50, 3) := by decide +kernel
theorem dX3_hasSide_29 : decode cX3_hasSide 29 = .ok (.iload_n 3, 1) := by decide +kernel
theorem dX3_hasSide_30 : decode cX3_hasSide 30 = .ok (.if_icmp .eq 27, 3) := by decide +kernel
theorem dX3_hasSide_33 : decode cX3_hasSide 33 = .ok (.aload_n 0, 1) := by decide +kernel
theorem dX3_hasSide_34 : decode cX3_hasSide 34 = .ok (.iload_n 1, 1) := by decide +kernel
theorem dX3_hasSide_35 : decode cX3_hasSide 35 = .ok (.iload 4, 2) := by decide +kernel
theorem dX3_hasSide_37 : decode cX3_hasSide 37 = .ok (.invokevirtual 50, 3) := by decide +kernel
theorem dX3_hasSide_40 : decode cX3_hasSide 40 = .ok (.iload_n 3, 1) := by decide +kernel
theorem dX3_hasSide_41 : decode cX3_hasSide 41 = .ok (.if_icmp .ne 18, 3) := by decide +kernel
theorem dX3_hasSide_44 : decode cX3_hasSide 44 = .ok (.aload_n 0, 1) := by decide +kernel
theorem dX3_hasSide_45 : decode cX3_hasSide 45 = .ok (.iload_n 1, 1) := by decide +kernel
theorem dX3_hasSide_46 : decode cX3_hasSide 46 = .ok (.iload 4, 2) := by decide +kernel
theorem dX3_hasSide_48 : decode cX3_hasSide 48 = .ok (.iconst 1, 1) := by decide +kernel
theorem dX3_hasSide_49 : decode cX3_hasSide 49 = .ok (.iadd, 1) := by decide +kernel
theorem dX3_hasSide_50 : decode cX3_hasSide 50 = .ok (.invokevirtual 50, 3) := by decide +kernel
theorem dX3_hasSide_53 : decode cX3_hasSide 53 = .ok (.iload_n 2, 1) := by decide +kernel
theorem dX3_hasSide_54 : decode cX3_hasSide 54 = .ok (.if_icmp .ne 5, 3) := by decide +kernel
theorem dX3_hasSide_57 : decode cX3_hasSide 57 = .ok (.iconst 1, 1) := by decide +kernel
theorem dX3_hasSide_58 : decode cX3_hasSide 58 = .ok (.ireturn, 1) := by decide +kernel
theorem dX3_hasSide_59 : decode cX3_hasSide 59 = .ok (.iinc 4 1, 3) := by decide +kernel
theorem dX3_hasSide_62 : decode cX3_hasSide 62 = .ok (.goto (-59), 3) := by decide +kernel
theorem dX3_hasSide_65 : decode cX3_hasSide 65 = .ok (.iconst 0, 1) := by decide +kernel
theorem dX3_hasSide_66 : decode cX3_hasSide 66 = .ok (.ireturn, 1) := by decide +kernel
set_option maxRecDepth 20000 in
theorem ggX3_sides_X3_hasSide : GoodIn wsX3_sides wsX3_hasSide := goodIn_r _ [8, 9, 10, 11, 7, 12, 13, 14, 15, 16, 17, 18, 19, 20, 21, 22, 23, 24] (by decide +kernel) (by decide +kernel)
set_option maxRecDepth 20000 in
theorem gX3_sides_X3_hasSide : GoodIn wsX3_sides (wsV RX3 142 RX3 yX3_hasSide wsX3_hasSide) := goodIn_app (goodIn_of _ (by decide +kernel)) ggX3_sides_X3_hasSide
theorem dX3_sides_0 : decode cX3_sides 0 = .ok (.iconst 0, 1) := by decide +kernel
theorem dX3_sides_1 : decode cX3_sides 1 = .ok (.istore_n 1, 1) := by decide +kernel
theorem dX3_sides_2 : decode cX3_sides 2 = .ok (.iconst 0, 1) := by decide +kernel
theorem dX3_sides_3 : decode cX3_sides 3 = .ok (.istore_n 2, 1) := by decide +kernel
theorem dX3_sides_4 : decode cX3_sides 4 = .ok (.iload_n 2, 1) := by decide +kernel
theorem dX3_sides_5 : decode cX3_sides 5 = .ok (.aload_n 0, 1) := by decide +kernel
theorem dX3_sides_6 : decode cX3_sides 6 = .ok (.getfield 40, 3) := by decide +kernel
theorem dX3_sides_9 : decode cX3_sides 9 = .ok (.if_icmp .ge 89, 3) := by decide +kernel
theorem dX3_sides_12 : decode cX3_sides 12 = .ok (.iconst 0, 1) := by decide +kernel
theorem dX3_sides_13 : decode cX3_sides 13 = .ok (.istore_n 3, 1) := by decide +kernel
theorem dX3_sides_14 : decode cX3_sides 14 = .ok (.iload_n 3, 1) := by decide +kernel
theorem dX3_sides_15 : decode cX3_sides 15 = .ok (.iload_n 2, 1) := by decide +kernel
theorem dX3_sides_16 : decode cX3_sides 16 = .ok (.if_icmp .ge 76, 3) := by decide +kernel
theorem dX3_sides_19 : decode cX3_sides 19 = .ok (.iconst 0, 1) := by decide +kernel
theorem dX3_sides_20 : decode cX3_sides 20 = .ok (.istore 4, 2) := by decide +kernel
theorem dX3_sides_22 : decode cX3_sides 22 = .ok (.iconst 0, 1) := by decide +kernel
theorem dX3_sides_23 : decode cX3_sides 23 = .ok (.istore 5, 2) := by decide +kernel
theorem dX3_sides_25 : decode cX3_sides 25 = .ok (.iload 5, 2) := by decide +kernel
theorem dX3_sides_27 : decode cX3_sides 27 = .ok (.aload_n 0, 1) := by decide +kernel
theorem dX3_sides_28 : decode cX3_sides 28 = .ok (.getfield 43, 3) := by decide +kernel
theorem dX3_sides_31 : decode cX3_sides 31 = .ok (.if_icmp .ge 42, 3) := by decide +kernel
theorem dX3_sides_34 : decode cX3_sides 34 = .ok (.iload 4, 2) := by decide +kernel
theorem dX3_sides_36 : decode cX3_sides 36 = .ok (.ifCond .ne 24, 3) := by decide +kernel
theorem dX3_sides_39 : decode cX3_sides 39 = .ok (.aload_n 0, 1) := by decide +kernel
theorem dX3_sides_40 : decode cX3_sides 40 = .ok (.getfield 16, 3) := by decide +kernel
theorem dX3_sides_43 : decode cX3_sides 43 = .ok (.iload 5, 2) := by decide +kernel
theorem dX3_sides_45 : decode cX3_sides 45 = .ok (.baload, 1) := by decide +kernel
theorem dX3_sides_46 : decode cX3_sides 46 = .ok (.ifCond .eq 18, 3) := by decide +kernel
theorem dX3_sides_49 : decode cX3_sides 49 = .ok (.aload_n 0, 1) := by decide +kernel
theorem dX3_sides_50 : decode cX3_sides 50 = .ok (.iload 5, 2) := by decide +kernel
theorem dX3_sides_52 : decode cX3_sides 52 = .ok (.iload_n 2, 1) := by decide +kernel
theorem dX3_sides_53 : decode cX3_sides 53 = .ok (.iload_n 3, 1) := by decide +kernel
theorem dX3_sides_54 : decode cX3_sides 54 = .ok (.invokevirtual 142, 3) := by decide +kernel
theorem dX3_sides_57 : decode cX3_sides 57 = .ok (.ifCond .eq 7, 3) := by decide +kernel
theorem dX3_sides_60 : decode cX3_sides 60 = .ok (.iconst 1, 1) := by decide +kernel
theorem dX3_sides_61 : decode cX3_sides 61 = .ok (.goto 4, 3) := by decide +kernel
theorem dX3_sides_64 : decode cX3_sides 64 = .ok (.iconst 0, 1) := by decide +kernel
theorem dX3_sides_65 : decode cX3_sides 65 = .ok (.istore 4, 2) := by decide +kernel
theorem dX3_sides_67 : decode cX3_sides 67 = .ok (.iinc 5 1, 3) := by decide +kernel
theorem dX3_sides_70 : decode cX3_sides 70 = .ok (.goto (-45), 3) := by decide +kernel
theorem dX3_sides_73 : decode cX3_sides 73 = .ok (.iload_n 1, 1) := by decide +kernel
theorem dX3_sides_74 : decode cX3_sides 74 = .ok (.iload 4, 2) := by decide +kernel
theorem dX3_sides_76 : decode cX3_sides 76 = .ok (.ifCond .eq 7, 3) := by decide +kernel
theorem dX3_sides_79 : decode cX3_sides 79 = .ok (.iconst 1, 1) := by decide +kernel
theorem dX3_sides_80 : decode cX3_sides 80 = .ok (.goto 4, 3) := by decide +kernel
theorem dX3_sides_83 : decode cX3_sides 83 = .ok (.iconst 0, 1) := by decide +kernel
theorem dX3_sides_84 : decode cX3_sides 84 = .ok (.iadd, 1) := by decide +kernel
theorem dX3_sides_85 : decode cX3_sides 85 = .ok (.istore_n 1, 1) := by decide +kernel
theorem dX3_sides_86 : decode cX3_sides 86 = .ok (.iinc 3 1, 3) := by decide +kernel
theorem dX3_sides_89 : decode cX3_sides 89 = .ok (.goto (-75), 3) := by decide +kernel
theorem dX3_sides_92 : decode cX3_sides 92 = .ok (.iinc 2 1, 3) := by decide +kernel
theorem dX3_sides_95 : decode cX3_sides 95 = .ok (.goto (-91), 3) := by decide +kernel
theorem dX3_sides_98 : decode cX3_sides 98 = .ok (.iload_n 1, 1) := by decide +kernel
theorem dX3_sides_99 : decode cX3_sides 99 = .ok (.ireturn, 1) := by decide +kernel
set_option maxRecDepth 20000 in
theorem ggX3_pieces_X3_neighbour : GoodIn wsX3_pieces wsX3_neighbour := goodIn_r _ [8, 1, 3, 9, 10, 11, 7, 12, 13, 14, 15, 16, 17, 18, 19, 20, 21, 22, 23, 24] (by decide +kernel) (by decide +kernel)
set_option maxRecDepth 20000 in
theorem gX3_pieces_X3_neighbour : GoodIn wsX3_pieces (wsV RX3 91 RX3 yX3_neighbour wsX3_neighbour) := goodIn_app (goodIn_of _ (by decide +kernel)) ggX3_pieces_X3_neighbour
theorem dX3_pieces_0 : decode cX3_pieces 0 = .ok (.iconst 0, 1) := by decide +kernel
theorem dX3_pieces_1 : decode cX3_pieces 1 = .ok (.istore_n 1, 1) := by decide +kernel
theorem dX3_pieces_2 : decode cX3_pieces 2 = .ok (.iload_n 1, 1) := by decide +kernel
theorem dX3_pieces_3 : decode cX3_pieces 3 = .ok (.aload_n 0, 1) := by decide +kernel
theorem dX3_pieces_4 : decode cX3_pieces 4 = .ok (.getfield 43, 3) := by decide +kernel
theorem dX3_pieces_7 : decode cX3_pieces 7 = .ok (.if_icmp .ge 16, 3) := by decide +kernel
theorem dX3_pieces_10 : decode cX3_pieces 10 = .ok (.aload_n 0, 1) := by decide +kernel
theorem dX3_pieces_11 : decode cX3_pieces 11 = .ok (.getfield 30, 3) := by decide +kernel
theorem dX3_pieces_14 : decode cX3_pieces 14 = .ok (.iload_n 1, 1) := by decide +kernel
theorem dX3_pieces_15 : decode cX3_pieces 15 = .ok (.iload_n 1, 1) := by decide +kernel
theorem dX3_pieces_16 : decode cX3_pieces 16 = .ok (.iastore, 1) := by decide +kernel
theorem dX3_pieces_17 : decode cX3_pieces 17 = .ok (.iinc 1 1, 3) := by decide +kernel
theorem dX3_pieces_20 : decode cX3_pieces 20 = .ok (.goto (-18), 3) := by decide +kernel
theorem dX3_pieces_23 : decode cX3_pieces 23 = .ok (.iconst 1, 1) := by decide +kernel
theorem dX3_pieces_24 : decode cX3_pieces 24 = .ok (.istore_n 1, 1) := by decide +kernel
theorem dX3_pieces_25 : decode cX3_pieces 25 = .ok (.iload_n 1, 1) := by decide +kernel
theorem dX3_pieces_26 : decode cX3_pieces 26 = .ok (.ifCond .eq 132, 3) := by decide +kernel
theorem dX3_pieces_29 : decode cX3_pieces 29 = .ok (.iconst 0, 1) := by decide +kernel
theorem dX3_pieces_30 : decode cX3_pieces 30 = .ok (.istore_n 1, 1) := by decide +kernel
theorem dX3_pieces_31 : decode cX3_pieces 31 = .ok (.iconst 0, 1) := by decide +kernel
theorem dX3_pieces_32 : decode cX3_pieces 32 = .ok (.istore_n 2, 1) := by decide +kernel
theorem dX3_pieces_33 : decode cX3_pieces 33 = .ok (.iload_n 2, 1) := by decide +kernel
theorem dX3_pieces_34 : decode cX3_pieces 34 = .ok (.aload_n 0, 1) := by decide +kernel
theorem dX3_pieces_35 : decode cX3_pieces 35 = .ok (.getfield 43, 3) := by decide +kernel
theorem dX3_pieces_38 : decode cX3_pieces 38 = .ok (.if_icmp .ge 117, 3) := by decide +kernel
theorem dX3_pieces_41 : decode cX3_pieces 41 = .ok (.iconst 0, 1) := by decide +kernel
theorem dX3_pieces_42 : decode cX3_pieces 42 = .ok (.istore_n 3, 1) := by decide +kernel
theorem dX3_pieces_43 : decode cX3_pieces 43 = .ok (.iload_n 3, 1) := by decide +kernel
theorem dX3_pieces_44 : decode cX3_pieces 44 = .ok (.iconst 3, 1) := by decide +kernel
theorem dX3_pieces_45 : decode cX3_pieces 45 = .ok (.if_icmp .ge 104, 3) := by decide +kernel
theorem dX3_pieces_48 : decode cX3_pieces 48 = .ok (.aload_n 0, 1) := by decide +kernel
theorem dX3_pieces_49 : decode cX3_pieces 49 = .ok (.getfield 16, 3) := by decide +kernel
theorem dX3_pieces_52 : decode cX3_pieces 52 = .ok (.iload_n 2, 1) := by decide +kernel
theorem dX3_pieces_53 : decode cX3_pieces 53 = .ok (.baload, 1) := by decide +kernel
theorem dX3_pieces_54 : decode cX3_pieces 54 = .ok (.ifCond .eq 95, 3) := by decide +kernel
theorem dX3_pieces_57 : decode cX3_pieces 57 = .ok (.aload_n 0, 1) := by decide +kernel
theorem dX3_pieces_58 : decode cX3_pieces 58 = .ok (.iload_n 2, 1) := by decide +kernel
theorem dX3_pieces_59 : decode cX3_pieces 59 = .ok (.iload_n 3, 1) := by decide +kernel
theorem dX3_pieces_60 : decode cX3_pieces 60 = .ok (.invokevirtual 91, 3) := by decide +kernel
theorem dX3_pieces_63 : decode cX3_pieces 63 = .ok (.istore 4, 2) := by decide +kernel
theorem dX3_pieces_65 : decode cX3_pieces 65 = .ok (.iload 4, 2) := by decide +kernel
theorem dX3_pieces_67 : decode cX3_pieces 67 = .ok (.iconst (-1), 1) := by decide +kernel
theorem dX3_pieces_68 : decode cX3_pieces 68 = .ok (.if_icmp .eq 75, 3) := by decide +kernel
theorem dX3_pieces_71 : decode cX3_pieces 71 = .ok (.aload_n 0, 1) := by decide +kernel
theorem dX3_pieces_72 : decode cX3_pieces 72 = .ok (.getfield 30, 3) := by decide +kernel
theorem dX3_pieces_75 : decode cX3_pieces 75 = .ok (.iload 4, 2) := by decide +kernel
theorem dX3_pieces_77 : decode cX3_pieces 77 = .ok (.iaload, 1) := by decide +kernel
theorem dX3_pieces_78 : decode cX3_pieces 78 = .ok (.aload_n 0, 1) := by decide +kernel
theorem dX3_pieces_79 : decode cX3_pieces 79 = .ok (.getfield 30, 3) := by decide +kernel
theorem dX3_pieces_82 : decode cX3_pieces 82 = .ok (.iload_n 2, 1) := by decide +kernel
theorem dX3_pieces_83 : decode cX3_pieces 83 = .ok (.iaload, 1) := by decide +kernel
theorem dX3_pieces_84 : decode cX3_pieces 84 = .ok (.if_icmp .ne 6, 3) := by decide +kernel
theorem dX3_pieces_87 : decode cX3_pieces 87 = .ok (.goto 56, 3) := by decide +kernel
theorem dX3_pieces_90 : decode cX3_pieces 90 = .ok (.aload_n 0, 1) := by decide +kernel
theorem dX3_pieces_91 : decode cX3_pieces 91 = .ok (.getfield 30, 3) := by decide +kernel
theorem dX3_pieces_94 : decode cX3_pieces 94 = .ok (.iload 4, 2) := by decide +kernel
theorem dX3_pieces_96 : decode cX3_pieces 96 = .ok (.iaload, 1) := by decide +kernel
theorem dX3_pieces_97 : decode cX3_pieces 97 = .ok (.aload_n 0, 1) := by decide +kernel
theorem dX3_pieces_98 : decode cX3_pieces 98 = .ok (.getfield 30, 3) := by decide +kernel
theorem dX3_pieces_101 : decode cX3_pieces 101 = .ok (.iload_n 2, 1) := by decide +kernel
theorem dX3_pieces_102 : decode cX3_pieces 102 = .ok (.iaload, 1) := by decide +kernel
theorem dX3_pieces_103 : decode cX3_pieces 103 = .ok (.if_icmp .ge 13, 3) := by decide +kernel
theorem dX3_pieces_106 : decode cX3_pieces 106 = .ok (.aload_n 0, 1) := by decide +kernel
theorem dX3_pieces_107 : decode cX3_pieces 107 = .ok (.getfield 30, 3) := by decide +kernel
theorem dX3_pieces_110 : decode cX3_pieces 110 = .ok (.iload 4, 2) := by decide +kernel
theorem dX3_pieces_112 : decode cX3_pieces 112 = .ok (.iaload, 1) := by decide +kernel
theorem dX3_pieces_113 : decode cX3_pieces 113 = .ok (.goto 9, 3) := by decide +kernel
theorem dX3_pieces_116 : decode cX3_pieces 116 = .ok (.aload_n 0, 1) := by decide +kernel
theorem dX3_pieces_117 : decode cX3_pieces 117 = .ok (.getfield 30, 3) := by decide +kernel
theorem dX3_pieces_120 : decode cX3_pieces 120 = .ok (.iload_n 2, 1) := by decide +kernel
theorem dX3_pieces_121 : decode cX3_pieces 121 = .ok (.iaload, 1) := by decide +kernel
theorem dX3_pieces_122 : decode cX3_pieces 122 = .ok (.istore 5, 2) := by decide +kernel
theorem dX3_pieces_124 : decode cX3_pieces 124 = .ok (.aload_n 0, 1) := by decide +kernel
theorem dX3_pieces_125 : decode cX3_pieces 125 = .ok (.getfield 30, 3) := by decide +kernel
theorem dX3_pieces_128 : decode cX3_pieces 128 = .ok (.iload 4, 2) := by decide +kernel
theorem dX3_pieces_130 : decode cX3_pieces 130 = .ok (.iload 5, 2) := by decide +kernel
theorem dX3_pieces_132 : decode cX3_pieces 132 = .ok (.iastore, 1) := by decide +kernel
theorem dX3_pieces_133 : decode cX3_pieces 133 = .ok (.aload_n 0, 1) := by decide +kernel
theorem dX3_pieces_134 : decode cX3_pieces 134 = .ok (.getfield 30, 3) := by decide +kernel
theorem dX3_pieces_137 : decode cX3_pieces 137 = .ok (.iload_n 2, 1) := by decide +kernel
theorem dX3_pieces_138 : decode cX3_pieces 138 = .ok (.iload 5, 2) := by decide +kernel
theorem dX3_pieces_140 : decode cX3_pieces 140 = .ok (.iastore, 1) := by decide +kernel
theorem dX3_pieces_141 : decode cX3_pieces 141 = .ok (.iconst 1, 1) := by decide +kernel
theorem dX3_pieces_142 : decode cX3_pieces 142 = .ok (.istore_n 1, 1) := by decide +kernel
theorem dX3_pieces_143 : decode cX3_pieces 143 = .ok (.iinc 3 1, 3) := by decide +kernel
theorem dX3_pieces_146 : decode cX3_pieces 146 = .ok (.goto (-103), 3) := by decide +kernel
theorem dX3_pieces_149 : decode cX3_pieces 149 = .ok (.iinc 2 1, 3) := by decide +kernel
theorem dX3_pieces_152 : decode cX3_pieces 152 = .ok (.goto (-119), 3) := by decide +kernel
theorem dX3_pieces_155 : decode cX3_pieces 155 = .ok (.goto (-130), 3) := by decide +kernel
theorem dX3_pieces_158 : decode cX3_pieces 158 = .ok (.iconst 0, 1) := by decide +kernel
theorem dX3_pieces_159 : decode cX3_pieces 159 = .ok (.istore_n 2, 1) := by decide +kernel
theorem dX3_pieces_160 : decode cX3_pieces 160 = .ok (.iconst 0, 1) := by decide +kernel
theorem dX3_pieces_161 : decode cX3_pieces 161 = .ok (.istore_n 3, 1) := by decide +kernel
theorem dX3_pieces_162 : decode cX3_pieces 162 = .ok (.iload_n 3, 1) := by decide +kernel
theorem dX3_pieces_163 : decode cX3_pieces 163 = .ok (.aload_n 0, 1) := by decide +kernel
theorem dX3_pieces_164 : decode cX3_pieces 164 = .ok (.getfield 43, 3) := by decide +kernel
theorem dX3_pieces_167 : decode cX3_pieces 167 = .ok (.if_icmp .ge 36, 3) := by decide +kernel
theorem dX3_pieces_170 : decode cX3_pieces 170 = .ok (.iload_n 2, 1) := by decide +kernel
theorem dX3_pieces_171 : decode cX3_pieces 171 = .ok (.aload_n 0, 1) := by decide +kernel
theorem dX3_pieces_172 : decode cX3_pieces 172 = .ok (.getfield 16, 3) := by decide +kernel
theorem dX3_pieces_175 : decode cX3_pieces 175 = .ok (.iload_n 3, 1) := by decide +kernel
theorem dX3_pieces_176 : decode cX3_pieces 176 = .ok (.baload, 1) := by decide +kernel
theorem dX3_pieces_177 : decode cX3_pieces 177 = .ok (.ifCond .eq 17, 3) := by decide +kernel
theorem dX3_pieces_180 : decode cX3_pieces 180 = .ok (.aload_n 0, 1) := by decide +kernel
theorem dX3_pieces_181 : decode cX3_pieces 181 = .ok (.getfield 30, 3) := by decide +kernel
theorem dX3_pieces_184 : decode cX3_pieces 184 = .ok (.iload_n 3, 1) := by decide +kernel
theorem dX3_pieces_185 : decode cX3_pieces 185 = .ok (.iaload, 1) := by decide +kernel
theorem dX3_pieces_186 : decode cX3_pieces 186 = .ok (.iload_n 3, 1) := by decide +kernel
theorem dX3_pieces_187 : decode cX3_pieces 187 = .ok (.if_icmp .ne 7, 3) := by decide +kernel
theorem dX3_pieces_190 : decode cX3_pieces 190 = .ok (.iconst 1, 1) := by decide +kernel
theorem dX3_pieces_191 : decode cX3_pieces 191 = .ok (.goto 4, 3) := by decide +kernel
theorem dX3_pieces_194 : decode cX3_pieces 194 = .ok (.iconst 0, 1) := by decide +kernel
theorem dX3_pieces_195 : decode cX3_pieces 195 = .ok (.iadd, 1) := by decide +kernel
theorem dX3_pieces_196 : decode cX3_pieces 196 = .ok (.istore_n 2, 1) := by decide +kernel
theorem dX3_pieces_197 : decode cX3_pieces 197 = .ok (.iinc 3 1, 3) := by decide +kernel
theorem dX3_pieces_200 : decode cX3_pieces 200 = .ok (.goto (-38), 3) := by decide +kernel
theorem dX3_pieces_203 : decode cX3_pieces 203 = .ok (.iload_n 2, 1) := by decide +kernel
theorem dX3_pieces_204 : decode cX3_pieces 204 = .ok (.ireturn, 1) := by decide +kernel
set_option maxRecDepth 20000 in
theorem ggX3_edges_X3_neighbour : GoodIn wsX3_edges wsX3_neighbour := goodIn_r _ [7, 1, 2, 8, 9, 10, 6, 11, 12, 26, 27, 28, 29, 30, 31, 32, 33, 34, 35, 36] (by decide +kernel) (by decide +kernel)
set_option maxRecDepth 20000 in
theorem gX3_edges_X3_neighbour : GoodIn wsX3_edges (wsV RX3 91 RX3 yX3_neighbour wsX3_neighbour) := goodIn_app (goodIn_of _ (by decide +kernel)) ggX3_edges_X3_neighbour
set_option maxRecDepth 20000 in
theorem ggX3_edges_X3_good : GoodIn wsX3_edges wsX3_good := goodIn_r _ [16, 17, 18, 3, 4, 5, 6, 7, 1, 2, 8, 9, 10, 11, 12, 19, 20, 21, 22, 23, 24, 25, 26, 27, 28, 29, 30, 31, 32, 33, 34, 35, 36] (by decide +kernel) (by decide +kernel)
set_option maxRecDepth 20000 in
theorem gX3_edges_X3_good : GoodIn wsX3_edges (wsV RX3 124 RX3 yX3_good wsX3_good) := goodIn_app (goodIn_of _ (by decide +kernel)) ggX3_edges_X3_good
theorem dX3_edges_0 : decode cX3_edges 0 = .ok (.iconst 0, 1) := by decide +kernel
theorem dX3_edges_1 : decode cX3_edges 1 = .ok (.istore_n 2, 1) := by decide +kernel
theorem dX3_edges_2 : decode cX3_edges 2 = .ok (.iconst 0, 1) := by decide +kernel
theorem dX3_edges_3 : decode cX3_edges 3 = .ok (.istore_n 3, 1) := by decide +kernel
theorem dX3_edges_4 : decode cX3_edges 4 = .ok (.iload_n 3, 1) := by decide +kernel
theorem dX3_edges_5 : decode cX3_edges 5 = .ok (.aload_n 0, 1) := by decide +kernel
theorem dX3_edges_6 : decode cX3_edges 6 = .ok (.getfield 43, 3) := by decide +kernel
theorem dX3_edges_9 : decode cX3_edges 9 = .ok (.if_icmp .ge 74, 3) := by decide +kernel
theorem dX3_edges_12 : decode cX3_edges 12 = .ok (.iconst 0, 1) := by decide +kernel
theorem dX3_edges_13 : decode cX3_edges 13 = .ok (.istore 4, 2) := by decide +kernel
theorem dX3_edges_15 : decode cX3_edges 15 = .ok (.iload 4, 2) := by decide +kernel
theorem dX3_edges_17 : decode cX3_edges 17 = .ok (.iconst 3, 1) := by decide +kernel
theorem dX3_edges_18 : decode cX3_edges 18 = .ok (.if_icmp .ge 59, 3) := by decide +kernel
theorem dX3_edges_21 : decode cX3_edges 21 = .ok (.aload_n 0, 1) := by decide +kernel
theorem dX3_edges_22 : decode cX3_edges 22 = .ok (.getfield 16, 3) := by decide +kernel
theorem dX3_edges_25 : decode cX3_edges 25 = .ok (.iload_n 3, 1) := by decide +kernel
theorem dX3_edges_26 : decode cX3_edges 26 = .ok (.baload, 1) := by decide +kernel
theorem dX3_edges_27 : decode cX3_edges 27 = .ok (.ifCond .eq 50, 3) := by decide +kernel
theorem dX3_edges_30 : decode cX3_edges 30 = .ok (.iload_n 2, 1) := by decide +kernel
theorem dX3_edges_31 : decode cX3_edges 31 = .ok (.iload_n 1, 1) := by decide +kernel
theorem dX3_edges_32 : decode cX3_edges 32 = .ok (.ifCond .eq 22, 3) := by decide +kernel
theorem dX3_edges_35 : decode cX3_edges 35 = .ok (.aload_n 0, 1) := by decide +kernel
theorem dX3_edges_36 : decode cX3_edges 36 = .ok (.iload_n 3, 1) := by decide +kernel
theorem dX3_edges_37 : decode cX3_edges 37 = .ok (.iload 4, 2) := by decide +kernel
theorem dX3_edges_39 : decode cX3_edges 39 = .ok (.invokevirtual 91, 3) := by decide +kernel
theorem dX3_edges_42 : decode cX3_edges 42 = .ok (.iconst (-1), 1) := by decide +kernel
theorem dX3_edges_43 : decode cX3_edges 43 = .ok (.if_icmp .ne 7, 3) := by decide +kernel
theorem dX3_edges_46 : decode cX3_edges 46 = .ok (.iconst 1, 1) := by decide +kernel
theorem dX3_edges_47 : decode cX3_edges 47 = .ok (.goto 22, 3) := by decide +kernel
theorem dX3_edges_50 : decode cX3_edges 50 = .ok (.iconst 0, 1) := by decide +kernel
theorem dX3_edges_51 : decode cX3_edges 51 = .ok (.goto 18, 3) := by decide +kernel
theorem dX3_edges_54 : decode cX3_edges 54 = .ok (.aload_n 0, 1) := by decide +kernel
theorem dX3_edges_55 : decode cX3_edges 55 = .ok (.iload_n 3, 1) := by decide +kernel
theorem dX3_edges_56 : decode cX3_edges 56 = .ok (.iload 4, 2) := by decide +kernel
theorem dX3_edges_58 : decode cX3_edges 58 = .ok (.invokevirtual 124, 3) := by decide +kernel
theorem dX3_edges_61 : decode cX3_edges 61 = .ok (.ifCond .eq 7, 3) := by decide +kernel
theorem dX3_edges_64 : decode cX3_edges 64 = .ok (.iconst 0, 1) := by decide +kernel
theorem dX3_edges_65 : decode cX3_edges 65 = .ok (.goto 4, 3) := by decide +kernel
theorem dX3_edges_68 : decode cX3_edges 68 = .ok (.iconst 1, 1) := by decide +kernel
theorem dX3_edges_69 : decode cX3_edges 69 = .ok (.iadd, 1) := by decide +kernel
theorem dX3_edges_70 : decode cX3_edges 70 = .ok (.istore_n 2, 1) := by decide +kernel
theorem dX3_edges_71 : decode cX3_edges 71 = .ok (.iinc 4 1, 3) := by decide +kernel
theorem dX3_edges_74 : decode cX3_edges 74 = .ok (.goto (-59), 3) := by decide +kernel
theorem dX3_edges_77 : decode cX3_edges 77 = .ok (.iinc 3 1, 3) := by decide +kernel
theorem dX3_edges_80 : decode cX3_edges 80 = .ok (.goto (-76), 3) := by decide +kernel
theorem dX3_edges_83 : decode cX3_edges 83 = .ok (.iload_n 2, 1) := by decide +kernel
theorem dX3_edges_84 : decode cX3_edges 84 = .ok (.ireturn, 1) := by decide +kernel
set_option maxRecDepth 20000 in
theorem ggX3_count_X3_cornerPoints : GoodIn wsX3_count wsX3_cornerPoints := goodIn_r _ [9, 2, 4, 10, 11, 12, 13, 8, 14, 15, 16, 17, 18, 19, 54, 55, 56, 57, 58, 59, 60, 61, 62, 63, 64] (by decide +kernel) (by decide +kernel)
set_option maxRecDepth 20000 in
theorem gX3_count_X3_cornerPoints : GoodIn wsX3_count (wsV RX3 145 RX3 yX3_cornerPoints wsX3_cornerPoints) := goodIn_app (goodIn_of _ (by decide +kernel)) ggX3_count_X3_cornerPoints
set_option maxRecDepth 20000 in
theorem ggX3_count_X3_sides : GoodIn wsX3_count wsX3_sides := goodIn_r _ [23, 2, 4, 10, 24, 25, 26, 8, 27, 15, 16, 17, 18, 19, 54, 55, 56, 57, 58, 59, 60, 61, 62, 63, 64] (by decide +kernel) (by decide +kernel)
set_option maxRecDepth 20000 in
theorem gX3_count_X3_sides : GoodIn wsX3_count (wsV RX3 149 RX3 yX3_sides wsX3_sides) := goodIn_app (goodIn_of _ (by decide +kernel)) ggX3_count_X3_sides
set_option maxRecDepth 20000 in
theorem ggX3_count_X3_edges : GoodIn wsX3_count wsX3_edges := goodIn_r _ [31, 4, 10, 32, 33, 34, 8, 35, 15, 16, 17, 18, 19, 36, 37, 38, 39, 40, 41, 42, 43, 44, 45, 46, 47, 48, 54, 55, 56, 57, 58, 59, 60, 61, 62, 63, 64] (by decide +kernel) (by decide +kernel)
set_option maxRecDepth 20000 in
theorem gX3_count_X3_edges : GoodIn wsX3_count (wsV RX3 152 RX3 yX3_edges wsX3_edges) := goodIn_app (goodIn_of _ (by decide +kernel)) ggX3_count_X3_edges
set_option maxRecDepth 20000 in
theorem ggX3_count_X3_pieces : GoodIn wsX3_count wsX3_pieces := goodIn_r _ [52, 4, 53, 10, 32, 33, 34, 8, 35, 15, 16, 17, 18, 19, 54, 55, 56, 57, 58, 59, 60, 61, 62, 63, 64] (by decide +kernel) (by decide +kernel)
set_option maxRecDepth 20000 in
theorem gX3_count_X3_pieces : GoodIn wsX3_count (wsV RX3 156 RX3 yX3_pieces wsX3_pieces) := goodIn_app (goodIn_of _ (by decide +kernel)) ggX3_count_X3_pieces
theorem dX3_count_0 : decode cX3_count 0 = .ok (.aload_n 0, 1) := by decide +kernel
theorem dX3_count_1 : decode cX3_count 1 = .ok (.iconst 0, 1) := by decide +kernel
theorem dX3_count_2 : decode cX3_count 2 = .ok (.putfield 33, 3) := by decide +kernel
theorem dX3_count_5 : decode cX3_count 5 = .ok (.iload_n 1, 1) := by decide +kernel
theorem dX3_count_6 : decode cX3_count 6 = .ok (.tableswitch 88 0 7 #[46, 51, 56, 61, 66, 71, 77, 82], 46) := by decide +kernel
theorem dX3_count_52 : decode cX3_count 52 = .ok (.aload_n 0, 1) := by decide +kernel
theorem dX3_count_53 : decode cX3_count 53 = .ok (.getfield 40, 3) := by decide +kernel
theorem dX3_count_56 : decode cX3_count 56 = .ok (.ireturn, 1) := by decide +kernel
theorem dX3_count_57 : decode cX3_count 57 = .ok (.aload_n 0, 1) := by decide +kernel
theorem dX3_count_58 : decode cX3_count 58 = .ok (.getfield 112, 3) := by decide +kernel
theorem dX3_count_61 : decode cX3_count 61 = .ok (.ireturn, 1) := by decide +kernel
theorem dX3_count_62 : decode cX3_count 62 = .ok (.aload_n 0, 1) := by decide +kernel
theorem dX3_count_63 : decode cX3_count 63 = .ok (.getfield 43, 3) := by decide +kernel
theorem dX3_count_66 : decode cX3_count 66 = .ok (.ireturn, 1) := by decide +kernel
theorem dX3_count_67 : decode cX3_count 67 = .ok (.aload_n 0, 1) := by decide +kernel
theorem dX3_count_68 : decode cX3_count 68 = .ok (.invokevirtual 145, 3) := by decide +kernel
theorem dX3_count_71 : decode cX3_count 71 = .ok (.ireturn, 1) := by decide +kernel
theorem dX3_count_72 : decode cX3_count 72 = .ok (.aload_n 0, 1) := by decide +kernel
theorem dX3_count_73 : decode cX3_count 73 = .ok (.invokevirtual 149, 3) := by decide +kernel
theorem dX3_count_76 : decode cX3_count 76 = .ok (.ireturn, 1) := by decide +kernel
theorem dX3_count_77 : decode cX3_count 77 = .ok (.aload_n 0, 1) := by decide +kernel
theorem dX3_count_78 : decode cX3_count 78 = .ok (.iconst 1, 1) := by decide +kernel
theorem dX3_count_79 : decode cX3_count 79 = .ok (.invokevirtual 152, 3) := by decide +kernel
theorem dX3_count_82 : decode cX3_count 82 = .ok (.ireturn, 1) := by decide +kernel
theorem dX3_count_83 : decode cX3_count 83 = .ok (.aload_n 0, 1) := by decide +kernel
theorem dX3_count_84 : decode cX3_count 84 = .ok (.invokevirtual 156, 3) := by decide +kernel
theorem dX3_count_87 : decode cX3_count 87 = .ok (.ireturn, 1) := by decide +kernel
theorem dX3_count_88 : decode cX3_count 88 = .ok (.aload_n 0, 1) := by decide +kernel
theorem dX3_count_89 : decode cX3_count 89 = .ok (.iconst 0, 1) := by decide +kernel
theorem dX3_count_90 : decode cX3_count 90 = .ok (.invokevirtual 152, 3) := by decide +kernel
theorem dX3_count_93 : decode cX3_count 93 = .ok (.ireturn, 1) := by decide +kernel
theorem dX3_count_94 : decode cX3_count 94 = .ok (.iconst (-1), 1) := by decide +kernel
theorem dX3_count_95 : decode cX3_count 95 = .ok (.ireturn, 1) := by decide +kernel
