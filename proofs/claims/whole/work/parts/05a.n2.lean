set_option maxRecDepth 20000 in
theorem ggX2_init_X0_init : GoodIn wsX2_init wsX0_init := goodIn_r _ [20, 21, 2, 3, 14, 22, 23, 24, 33, 34, 35] (by decide +kernel) (by decide +kernel)
set_option maxRecDepth 20000 in
theorem gX2_init_X0_init : GoodIn wsX2_init (wsX0_init) := ggX2_init_X0_init
set_option maxRecDepth 20000 in
theorem ggX2_init_X1_init : GoodIn wsX2_init wsX1_init := goodIn_r _ [27, 28, 2, 3, 14, 29, 30, 31, 32, 42, 43, 44, 45] (by decide +kernel) (by decide +kernel)
set_option maxRecDepth 20000 in
theorem gX2_init_X1_init : GoodIn wsX2_init (wsX1_init) := ggX2_init_X1_init
theorem dX2_init_0 : decode cX2_init 0 = .ok (.aload_n 0, 1) := by decide +kernel
theorem dX2_init_1 : decode cX2_init 1 = .ok (.invokespecial 1, 3) := by decide +kernel
theorem dX2_init_4 : decode cX2_init 4 = .ok (.aload_n 0, 1) := by decide +kernel
theorem dX2_init_5 : decode cX2_init 5 = .ok (.new 7, 3) := by decide +kernel
theorem dX2_init_8 : decode cX2_init 8 = .ok (.dup, 1) := by decide +kernel
theorem dX2_init_9 : decode cX2_init 9 = .ok (.invokespecial 9, 3) := by decide +kernel
theorem dX2_init_12 : decode cX2_init 12 = .ok (.putfield 10, 3) := by decide +kernel
theorem dX2_init_15 : decode cX2_init 15 = .ok (.aload_n 0, 1) := by decide +kernel
theorem dX2_init_16 : decode cX2_init 16 = .ok (.new 16, 3) := by decide +kernel
theorem dX2_init_19 : decode cX2_init 19 = .ok (.dup, 1) := by decide +kernel
theorem dX2_init_20 : decode cX2_init 20 = .ok (.invokespecial 18, 3) := by decide +kernel
theorem dX2_init_23 : decode cX2_init 23 = .ok (.putfield 19, 3) := by decide +kernel
theorem dX2_init_26 : decode cX2_init 26 = .ok (.aload_n 0, 1) := by decide +kernel
theorem dX2_init_27 : decode cX2_init 27 = .ok (.bipush 60, 2) := by decide +kernel
theorem dX2_init_29 : decode cX2_init 29 = .ok (.newarray .long, 2) := by decide +kernel
theorem dX2_init_31 : decode cX2_init 31 = .ok (.putfield 23, 3) := by decide +kernel
theorem dX2_init_34 : decode cX2_init 34 = .ok (.aload_n 0, 1) := by decide +kernel
theorem dX2_init_35 : decode cX2_init 35 = .ok (.sipush 200, 3) := by decide +kernel
theorem dX2_init_38 : decode cX2_init 38 = .ok (.newarray .int, 2) := by decide +kernel
theorem dX2_init_40 : decode cX2_init 40 = .ok (.putfield 27, 3) := by decide +kernel
theorem dX2_init_43 : decode cX2_init 43 = .ok (.aload_n 0, 1) := by decide +kernel
theorem dX2_init_44 : decode cX2_init 44 = .ok (.iconst (-1), 1) := by decide +kernel
theorem dX2_init_45 : decode cX2_init 45 = .ok (.putfield 31, 3) := by decide +kernel
theorem dX2_init_48 : decode cX2_init 48 = .ok (.aload_n 0, 1) := by decide +kernel
theorem dX2_init_49 : decode cX2_init 49 = .ok (.iconst (-1), 1) := by decide +kernel
theorem dX2_init_50 : decode cX2_init 50 = .ok (.putfield 35, 3) := by decide +kernel
theorem dX2_init_53 : decode cX2_init 53 = .ok (.return_, 1) := by decide +kernel
set_option maxRecDepth 20000 in
theorem ggX2_point_X2_isPlace : GoodIn wsX2_point wsX2_isPlace := goodIn_r _ [9] (by decide +kernel) (by decide +kernel)
set_option maxRecDepth 20000 in
theorem gX2_point_X2_isPlace : GoodIn wsX2_point (va_wsS RX2 38 yX2_isPlace wsX2_isPlace) := goodIn_app (goodIn_of _ (by decide +kernel)) ggX2_point_X2_isPlace
set_option maxRecDepth 20000 in
theorem ggX2_point_X0_canAdd : GoodIn wsX2_point wsX0_canAdd := goodIn_r _ [14, 15, 16, 17, 18, 13, 19, 20, 21, 36, 37, 38] (by decide +kernel) (by decide +kernel)
set_option maxRecDepth 20000 in
theorem gX2_point_X0_canAdd : GoodIn wsX2_point (wsV RX2 49 RX0 yX0_canAdd wsX0_canAdd) := goodIn_app (goodIn_of _ (by decide +kernel)) ggX2_point_X0_canAdd
set_option maxRecDepth 20000 in
theorem ggX2_point_X0_add : GoodIn wsX2_point wsX0_add := goodIn_r _ [25, 15, 26, 27, 28, 13, 29, 20, 21, 36, 37, 38] (by decide +kernel) (by decide +kernel)
set_option maxRecDepth 20000 in
theorem gX2_point_X0_add : GoodIn wsX2_point (wsV RX2 57 RX0 yX0_add wsX0_add) := goodIn_app (goodIn_of _ (by decide +kernel)) ggX2_point_X0_add
theorem dX2_point_0 : decode cX2_point 0 = .ok (.iload_n 1, 1) := by decide +kernel
theorem dX2_point_1 : decode cX2_point 1 = .ok (.iload_n 2, 1) := by decide +kernel
theorem dX2_point_2 : decode cX2_point 2 = .ok (.invokestatic 38, 3) := by decide +kernel
theorem dX2_point_5 : decode cX2_point 5 = .ok (.ifCond .ne 13, 3) := by decide +kernel
theorem dX2_point_8 : decode cX2_point 8 = .ok (.new 42, 3) := by decide +kernel
theorem dX2_point_11 : decode cX2_point 11 = .ok (.dup, 1) := by decide +kernel
theorem dX2_point_12 : decode cX2_point 12 = .ok (.ldc 44, 2) := by decide +kernel
theorem dX2_point_14 : decode cX2_point 14 = .ok (.invokespecial 46, 3) := by decide +kernel
theorem dX2_point_17 : decode cX2_point 17 = .ok (.athrow, 1) := by decide +kernel
theorem dX2_point_18 : decode cX2_point 18 = .ok (.aload_n 0, 1) := by decide +kernel
theorem dX2_point_19 : decode cX2_point 19 = .ok (.getfield 10, 3) := by decide +kernel
theorem dX2_point_22 : decode cX2_point 22 = .ok (.iload_n 1, 1) := by decide +kernel
theorem dX2_point_23 : decode cX2_point 23 = .ok (.iload_n 2, 1) := by decide +kernel
theorem dX2_point_24 : decode cX2_point 24 = .ok (.invokevirtual 49, 3) := by decide +kernel
theorem dX2_point_27 : decode cX2_point 27 = .ok (.ifCond .ne 13, 3) := by decide +kernel
theorem dX2_point_30 : decode cX2_point 30 = .ok (.new 52, 3) := by decide +kernel
theorem dX2_point_33 : decode cX2_point 33 = .ok (.dup, 1) := by decide +kernel
theorem dX2_point_34 : decode cX2_point 34 = .ok (.ldc 54, 2) := by decide +kernel
theorem dX2_point_36 : decode cX2_point 36 = .ok (.invokespecial 56, 3) := by decide +kernel
theorem dX2_point_39 : decode cX2_point 39 = .ok (.athrow, 1) := by decide +kernel
theorem dX2_point_40 : decode cX2_point 40 = .ok (.aload_n 0, 1) := by decide +kernel
theorem dX2_point_41 : decode cX2_point 41 = .ok (.getfield 10, 3) := by decide +kernel
theorem dX2_point_44 : decode cX2_point 44 = .ok (.iload_n 1, 1) := by decide +kernel
theorem dX2_point_45 : decode cX2_point 45 = .ok (.iload_n 2, 1) := by decide +kernel
theorem dX2_point_46 : decode cX2_point 46 = .ok (.invokevirtual 57, 3) := by decide +kernel
theorem dX2_point_49 : decode cX2_point 49 = .ok (.ireturn, 1) := by decide +kernel
set_option maxRecDepth 20000 in
theorem ggX2_move_X0_isPoint : GoodIn wsX2_move wsX0_isPoint := goodIn_r _ [12, 13, 34, 35, 36] (by decide +kernel) (by decide +kernel)
set_option maxRecDepth 20000 in
theorem gX2_move_X0_isPoint : GoodIn wsX2_move (wsV RX2 61 RX0 yX0_isPoint wsX0_isPoint) := goodIn_app (goodIn_of _ (by decide +kernel)) ggX2_move_X0_isPoint
set_option maxRecDepth 20000 in
theorem ggX2_move_X2_isPlace : GoodIn wsX2_move wsX2_isPlace := goodIn_r _ [17] (by decide +kernel) (by decide +kernel)
set_option maxRecDepth 20000 in
theorem gX2_move_X2_isPlace : GoodIn wsX2_move (va_wsS RX2 38 yX2_isPlace wsX2_isPlace) := goodIn_app (goodIn_of _ (by decide +kernel)) ggX2_move_X2_isPlace
set_option maxRecDepth 20000 in
theorem ggX2_move_X0_pointAt : GoodIn wsX2_move wsX0_pointAt := goodIn_r _ [21, 13, 22, 23, 34, 35, 36] (by decide +kernel) (by decide +kernel)
set_option maxRecDepth 20000 in
theorem gX2_move_X0_pointAt : GoodIn wsX2_move (wsV RX2 70 RX0 yX0_pointAt wsX0_pointAt) := goodIn_app (goodIn_of _ (by decide +kernel)) ggX2_move_X0_pointAt
set_option maxRecDepth 20000 in
theorem ggX2_move_X0_put : GoodIn wsX2_move wsX0_put := goodIn_r _ [27, 22, 23, 34, 35, 36] (by decide +kernel) (by decide +kernel)
set_option maxRecDepth 20000 in
theorem gX2_move_X0_put : GoodIn wsX2_move (wsV RX2 75 RX0 yX0_put wsX0_put) := goodIn_app (goodIn_of _ (by decide +kernel)) ggX2_move_X0_put
theorem dX2_move_0 : decode cX2_move 0 = .ok (.aload_n 0, 1) := by decide +kernel
theorem dX2_move_1 : decode cX2_move 1 = .ok (.getfield 10, 3) := by decide +kernel
theorem dX2_move_4 : decode cX2_move 4 = .ok (.iload_n 1, 1) := by decide +kernel
theorem dX2_move_5 : decode cX2_move 5 = .ok (.invokevirtual 61, 3) := by decide +kernel
theorem dX2_move_8 : decode cX2_move 8 = .ok (.ifCond .ne 13, 3) := by decide +kernel
theorem dX2_move_11 : decode cX2_move 11 = .ok (.new 65, 3) := by decide +kernel
theorem dX2_move_14 : decode cX2_move 14 = .ok (.dup, 1) := by decide +kernel
theorem dX2_move_15 : decode cX2_move 15 = .ok (.ldc 67, 2) := by decide +kernel
theorem dX2_move_17 : decode cX2_move 17 = .ok (.invokespecial 69, 3) := by decide +kernel
theorem dX2_move_20 : decode cX2_move 20 = .ok (.athrow, 1) := by decide +kernel
theorem dX2_move_21 : decode cX2_move 21 = .ok (.iload_n 2, 1) := by decide +kernel
theorem dX2_move_22 : decode cX2_move 22 = .ok (.iload_n 3, 1) := by decide +kernel
theorem dX2_move_23 : decode cX2_move 23 = .ok (.invokestatic 38, 3) := by decide +kernel
theorem dX2_move_26 : decode cX2_move 26 = .ok (.ifCond .ne 13, 3) := by decide +kernel
theorem dX2_move_29 : decode cX2_move 29 = .ok (.new 42, 3) := by decide +kernel
theorem dX2_move_32 : decode cX2_move 32 = .ok (.dup, 1) := by decide +kernel
theorem dX2_move_33 : decode cX2_move 33 = .ok (.ldc 44, 2) := by decide +kernel
theorem dX2_move_35 : decode cX2_move 35 = .ok (.invokespecial 46, 3) := by decide +kernel
theorem dX2_move_38 : decode cX2_move 38 = .ok (.athrow, 1) := by decide +kernel
theorem dX2_move_39 : decode cX2_move 39 = .ok (.aload_n 0, 1) := by decide +kernel
theorem dX2_move_40 : decode cX2_move 40 = .ok (.getfield 10, 3) := by decide +kernel
theorem dX2_move_43 : decode cX2_move 43 = .ok (.iload_n 2, 1) := by decide +kernel
theorem dX2_move_44 : decode cX2_move 44 = .ok (.iload_n 3, 1) := by decide +kernel
theorem dX2_move_45 : decode cX2_move 45 = .ok (.invokevirtual 70, 3) := by decide +kernel
theorem dX2_move_48 : decode cX2_move 48 = .ok (.istore 4, 2) := by decide +kernel
theorem dX2_move_50 : decode cX2_move 50 = .ok (.iload 4, 2) := by decide +kernel
theorem dX2_move_52 : decode cX2_move 52 = .ok (.iconst (-1), 1) := by decide +kernel
theorem dX2_move_53 : decode cX2_move 53 = .ok (.if_icmp .eq 19, 3) := by decide +kernel
theorem dX2_move_56 : decode cX2_move 56 = .ok (.iload 4, 2) := by decide +kernel
theorem dX2_move_58 : decode cX2_move 58 = .ok (.iload_n 1, 1) := by decide +kernel
theorem dX2_move_59 : decode cX2_move 59 = .ok (.if_icmp .eq 13, 3) := by decide +kernel
theorem dX2_move_62 : decode cX2_move 62 = .ok (.new 52, 3) := by decide +kernel
theorem dX2_move_65 : decode cX2_move 65 = .ok (.dup, 1) := by decide +kernel
theorem dX2_move_66 : decode cX2_move 66 = .ok (.ldc 73, 2) := by decide +kernel
theorem dX2_move_68 : decode cX2_move 68 = .ok (.invokespecial 56, 3) := by decide +kernel
theorem dX2_move_71 : decode cX2_move 71 = .ok (.athrow, 1) := by decide +kernel
theorem dX2_move_72 : decode cX2_move 72 = .ok (.aload_n 0, 1) := by decide +kernel
theorem dX2_move_73 : decode cX2_move 73 = .ok (.getfield 10, 3) := by decide +kernel
theorem dX2_move_76 : decode cX2_move 76 = .ok (.iload_n 1, 1) := by decide +kernel
theorem dX2_move_77 : decode cX2_move 77 = .ok (.iload_n 2, 1) := by decide +kernel
theorem dX2_move_78 : decode cX2_move 78 = .ok (.iload_n 3, 1) := by decide +kernel
theorem dX2_move_79 : decode cX2_move 79 = .ok (.invokevirtual 75, 3) := by decide +kernel
theorem dX2_move_82 : decode cX2_move 82 = .ok (.return_, 1) := by decide +kernel
set_option maxRecDepth 20000 in
theorem ggX2_triangle_X0_isPoint : GoodIn wsX2_triangle wsX0_isPoint := goodIn_r _ [13, 14, 38, 39, 40] (by decide +kernel) (by decide +kernel)
set_option maxRecDepth 20000 in
theorem gX2_triangle_X0_isPoint : GoodIn wsX2_triangle (wsV RX2 61 RX0 yX0_isPoint wsX0_isPoint) := goodIn_app (goodIn_of _ (by decide +kernel)) ggX2_triangle_X0_isPoint
set_option maxRecDepth 20000 in
theorem ggX2_triangle_X1_canAdd : GoodIn wsX2_triangle wsX1_canAdd := goodIn_r _ [19, 20, 21, 41, 42, 43, 44] (by decide +kernel) (by decide +kernel)
set_option maxRecDepth 20000 in
theorem gX2_triangle_X1_canAdd : GoodIn wsX2_triangle (wsV RX2 83 RX1 yX1_canAdd wsX1_canAdd) := goodIn_app (goodIn_of _ (by decide +kernel)) ggX2_triangle_X1_canAdd
set_option maxRecDepth 20000 in
theorem ggX2_triangle_X1_add : GoodIn wsX2_triangle wsX1_add := goodIn_r _ [25, 21, 26, 20, 27, 28, 29, 18, 30, 31, 41, 42, 43, 44] (by decide +kernel) (by decide +kernel)
set_option maxRecDepth 20000 in
theorem gX2_triangle_X1_add : GoodIn wsX2_triangle (wsV RX2 87 RX1 yX1_add wsX1_add) := goodIn_app (goodIn_of _ (by decide +kernel)) ggX2_triangle_X1_add
theorem dX2_triangle_0 : decode cX2_triangle 0 = .ok (.aload_n 0, 1) := by decide +kernel
theorem dX2_triangle_1 : decode cX2_triangle 1 = .ok (.getfield 10, 3) := by decide +kernel
theorem dX2_triangle_4 : decode cX2_triangle 4 = .ok (.iload_n 1, 1) := by decide +kernel
theorem dX2_triangle_5 : decode cX2_triangle 5 = .ok (.invokevirtual 61, 3) := by decide +kernel
theorem dX2_triangle_8 : decode cX2_triangle 8 = .ok (.ifCond .eq 25, 3) := by decide +kernel
theorem dX2_triangle_11 : decode cX2_triangle 11 = .ok (.aload_n 0, 1) := by decide +kernel
theorem dX2_triangle_12 : decode cX2_triangle 12 = .ok (.getfield 10, 3) := by decide +kernel
theorem dX2_triangle_15 : decode cX2_triangle 15 = .ok (.iload_n 2, 1) := by decide +kernel
theorem dX2_triangle_16 : decode cX2_triangle 16 = .ok (.invokevirtual 61, 3) := by decide +kernel
theorem dX2_triangle_19 : decode cX2_triangle 19 = .ok (.ifCond .eq 14, 3) := by decide +kernel
theorem dX2_triangle_22 : decode cX2_triangle 22 = .ok (.aload_n 0, 1) := by decide +kernel
theorem dX2_triangle_23 : decode cX2_triangle 23 = .ok (.getfield 10, 3) := by decide +kernel
theorem dX2_triangle_26 : decode cX2_triangle 26 = .ok (.iload_n 3, 1) := by decide +kernel
theorem dX2_triangle_27 : decode cX2_triangle 27 = .ok (.invokevirtual 61, 3) := by decide +kernel
theorem dX2_triangle_30 : decode cX2_triangle 30 = .ok (.ifCond .ne 13, 3) := by decide +kernel
theorem dX2_triangle_33 : decode cX2_triangle 33 = .ok (.new 65, 3) := by decide +kernel
theorem dX2_triangle_36 : decode cX2_triangle 36 = .ok (.dup, 1) := by decide +kernel
theorem dX2_triangle_37 : decode cX2_triangle 37 = .ok (.ldc 79, 2) := by decide +kernel
theorem dX2_triangle_39 : decode cX2_triangle 39 = .ok (.invokespecial 69, 3) := by decide +kernel
theorem dX2_triangle_42 : decode cX2_triangle 42 = .ok (.athrow, 1) := by decide +kernel
theorem dX2_triangle_43 : decode cX2_triangle 43 = .ok (.iload_n 1, 1) := by decide +kernel
theorem dX2_triangle_44 : decode cX2_triangle 44 = .ok (.iload_n 2, 1) := by decide +kernel
theorem dX2_triangle_45 : decode cX2_triangle 45 = .ok (.if_icmp .eq 13, 3) := by decide +kernel
theorem dX2_triangle_48 : decode cX2_triangle 48 = .ok (.iload_n 2, 1) := by decide +kernel
theorem dX2_triangle_49 : decode cX2_triangle 49 = .ok (.iload_n 3, 1) := by decide +kernel
theorem dX2_triangle_50 : decode cX2_triangle 50 = .ok (.if_icmp .eq 8, 3) := by decide +kernel
theorem dX2_triangle_53 : decode cX2_triangle 53 = .ok (.iload_n 3, 1) := by decide +kernel
theorem dX2_triangle_54 : decode cX2_triangle 54 = .ok (.iload_n 1, 1) := by decide +kernel
theorem dX2_triangle_55 : decode cX2_triangle 55 = .ok (.if_icmp .ne 13, 3) := by decide +kernel
theorem dX2_triangle_58 : decode cX2_triangle 58 = .ok (.new 42, 3) := by decide +kernel
theorem dX2_triangle_61 : decode cX2_triangle 61 = .ok (.dup, 1) := by decide +kernel
theorem dX2_triangle_62 : decode cX2_triangle 62 = .ok (.ldc 81, 2) := by decide +kernel
theorem dX2_triangle_64 : decode cX2_triangle 64 = .ok (.invokespecial 46, 3) := by decide +kernel
theorem dX2_triangle_67 : decode cX2_triangle 67 = .ok (.athrow, 1) := by decide +kernel
theorem dX2_triangle_68 : decode cX2_triangle 68 = .ok (.aload_n 0, 1) := by decide +kernel
theorem dX2_triangle_69 : decode cX2_triangle 69 = .ok (.getfield 19, 3) := by decide +kernel
theorem dX2_triangle_72 : decode cX2_triangle 72 = .ok (.iconst 1, 1) := by decide +kernel
theorem dX2_triangle_73 : decode cX2_triangle 73 = .ok (.invokevirtual 83, 3) := by decide +kernel
theorem dX2_triangle_76 : decode cX2_triangle 76 = .ok (.ifCond .ne 13, 3) := by decide +kernel
theorem dX2_triangle_79 : decode cX2_triangle 79 = .ok (.new 52, 3) := by decide +kernel
theorem dX2_triangle_82 : decode cX2_triangle 82 = .ok (.dup, 1) := by decide +kernel
theorem dX2_triangle_83 : decode cX2_triangle 83 = .ok (.ldc 85, 2) := by decide +kernel
theorem dX2_triangle_85 : decode cX2_triangle 85 = .ok (.invokespecial 56, 3) := by decide +kernel
theorem dX2_triangle_88 : decode cX2_triangle 88 = .ok (.athrow, 1) := by decide +kernel
theorem dX2_triangle_89 : decode cX2_triangle 89 = .ok (.aload_n 0, 1) := by decide +kernel
theorem dX2_triangle_90 : decode cX2_triangle 90 = .ok (.getfield 19, 3) := by decide +kernel
theorem dX2_triangle_93 : decode cX2_triangle 93 = .ok (.iload_n 1, 1) := by decide +kernel
theorem dX2_triangle_94 : decode cX2_triangle 94 = .ok (.iload_n 2, 1) := by decide +kernel
theorem dX2_triangle_95 : decode cX2_triangle 95 = .ok (.iload_n 3, 1) := by decide +kernel
theorem dX2_triangle_96 : decode cX2_triangle 96 = .ok (.invokevirtual 87, 3) := by decide +kernel
theorem dX2_triangle_99 : decode cX2_triangle 99 = .ok (.ireturn, 1) := by decide +kernel
set_option maxRecDepth 20000 in
theorem ggX2_take_X1_isThere : GoodIn wsX2_take wsX1_isThere := goodIn_r _ [8, 9, 10, 21, 22, 23, 24] (by decide +kernel) (by decide +kernel)
set_option maxRecDepth 20000 in
theorem gX2_take_X1_isThere : GoodIn wsX2_take (wsV RX2 90 RX1 yX1_isThere wsX1_isThere) := goodIn_app (goodIn_of _ (by decide +kernel)) ggX2_take_X1_isThere
set_option maxRecDepth 20000 in
theorem ggX2_take_X1_remove : GoodIn wsX2_take wsX1_remove := goodIn_r _ [14, 9, 10, 21, 22, 23, 24] (by decide +kernel) (by decide +kernel)
set_option maxRecDepth 20000 in
theorem gX2_take_X1_remove : GoodIn wsX2_take (wsV RX2 95 RX1 yX1_remove wsX1_remove) := goodIn_app (goodIn_of _ (by decide +kernel)) ggX2_take_X1_remove
theorem dX2_take_0 : decode cX2_take 0 = .ok (.aload_n 0, 1) := by decide +kernel
theorem dX2_take_1 : decode cX2_take 1 = .ok (.getfield 19, 3) := by decide +kernel
theorem dX2_take_4 : decode cX2_take 4 = .ok (.iload_n 1, 1) := by decide +kernel
theorem dX2_take_5 : decode cX2_take 5 = .ok (.invokevirtual 90, 3) := by decide +kernel
theorem dX2_take_8 : decode cX2_take 8 = .ok (.ifCond .ne 13, 3) := by decide +kernel
theorem dX2_take_11 : decode cX2_take 11 = .ok (.new 65, 3) := by decide +kernel
theorem dX2_take_14 : decode cX2_take 14 = .ok (.dup, 1) := by decide +kernel
theorem dX2_take_15 : decode cX2_take 15 = .ok (.ldc 93, 2) := by decide +kernel
theorem dX2_take_17 : decode cX2_take 17 = .ok (.invokespecial 69, 3) := by decide +kernel
theorem dX2_take_20 : decode cX2_take 20 = .ok (.athrow, 1) := by decide +kernel
theorem dX2_take_21 : decode cX2_take 21 = .ok (.aload_n 0, 1) := by decide +kernel
theorem dX2_take_22 : decode cX2_take 22 = .ok (.getfield 19, 3) := by decide +kernel
theorem dX2_take_25 : decode cX2_take 25 = .ok (.iload_n 1, 1) := by decide +kernel
theorem dX2_take_26 : decode cX2_take 26 = .ok (.invokevirtual 95, 3) := by decide +kernel
theorem dX2_take_29 : decode cX2_take 29 = .ok (.return_, 1) := by decide +kernel
set_option maxRecDepth 20000 in
theorem ggX2_part_X1_isThere : GoodIn wsX2_part wsX1_isThere := goodIn_r _ [13, 14, 15, 77, 78, 79, 80] (by decide +kernel) (by decide +kernel)
set_option maxRecDepth 20000 in
theorem gX2_part_X1_isThere : GoodIn wsX2_part (wsV RX2 90 RX1 yX1_isThere wsX1_isThere) := goodIn_app (goodIn_of _ (by decide +kernel)) ggX2_part_X1_isThere
set_option maxRecDepth 20000 in
theorem ggX2_part_X2_isPlace : GoodIn wsX2_part wsX2_isPlace := goodIn_r _ [19] (by decide +kernel) (by decide +kernel)
set_option maxRecDepth 20000 in
theorem gX2_part_X2_isPlace : GoodIn wsX2_part (va_wsS RX2 38 yX2_isPlace wsX2_isPlace) := goodIn_app (goodIn_of _ (by decide +kernel)) ggX2_part_X2_isPlace
set_option maxRecDepth 20000 in
theorem ggX2_part_X2_isWithin : GoodIn wsX2_part wsX2_isWithin := goodIn_r _ [23, 24, 25, 26, 18, 27, 8, 7, 28, 29, 30, 12, 31, 32, 33, 34, 35, 36, 37, 38, 39, 71, 72, 73, 74, 75, 76, 77, 78, 79, 80, 81, 82, 83] (by decide +kernel) (by decide +kernel)
set_option maxRecDepth 20000 in
theorem gX2_part_X2_isWithin : GoodIn wsX2_part (wsV RX2 99 RX2 yX2_isWithin wsX2_isWithin) := goodIn_app (goodIn_of _ (by decide +kernel)) ggX2_part_X2_isWithin
set_option maxRecDepth 20000 in
theorem ggX2_part_X0_canAdd : GoodIn wsX2_part wsX0_canAdd := goodIn_r _ [43, 44, 45, 46, 47, 36, 48, 38, 39, 81, 82, 83] (by decide +kernel) (by decide +kernel)
set_option maxRecDepth 20000 in
theorem gX2_part_X0_canAdd : GoodIn wsX2_part (wsV RX2 49 RX0 yX0_canAdd wsX0_canAdd) := goodIn_app (goodIn_of _ (by decide +kernel)) ggX2_part_X0_canAdd
set_option maxRecDepth 20000 in
theorem ggX2_part_X1_canAdd : GoodIn wsX2_part wsX1_canAdd := goodIn_r _ [52, 14, 53, 77, 78, 79, 80] (by decide +kernel) (by decide +kernel)
set_option maxRecDepth 20000 in
theorem gX2_part_X1_canAdd : GoodIn wsX2_part (wsV RX2 83 RX1 yX1_canAdd wsX1_canAdd) := goodIn_app (goodIn_of _ (by decide +kernel)) ggX2_part_X1_canAdd
set_option maxRecDepth 20000 in
theorem ggX2_part_X1_cornerOf : GoodIn wsX2_part wsX1_cornerOf := goodIn_r _ [31, 32, 77, 78, 79, 80] (by decide +kernel) (by decide +kernel)
set_option maxRecDepth 20000 in
theorem gX2_part_X1_cornerOf : GoodIn wsX2_part (wsV RX2 107 RX1 yX1_cornerOf wsX1_cornerOf) := goodIn_app (goodIn_of _ (by decide +kernel)) ggX2_part_X1_cornerOf
set_option maxRecDepth 20000 in
theorem ggX2_part_X0_add : GoodIn wsX2_part wsX0_add := goodIn_r _ [57, 44, 58, 59, 60, 36, 61, 38, 39, 81, 82, 83] (by decide +kernel) (by decide +kernel)
set_option maxRecDepth 20000 in
theorem gX2_part_X0_add : GoodIn wsX2_part (wsV RX2 57 RX0 yX0_add wsX0_add) := goodIn_app (goodIn_of _ (by decide +kernel)) ggX2_part_X0_add
set_option maxRecDepth 20000 in
theorem ggX2_part_X1_put : GoodIn wsX2_part wsX1_put := goodIn_r _ [65, 32, 77, 78, 79, 80] (by decide +kernel) (by decide +kernel)
set_option maxRecDepth 20000 in
theorem gX2_part_X1_put : GoodIn wsX2_part (wsV RX2 110 RX1 yX1_put wsX1_put) := goodIn_app (goodIn_of _ (by decide +kernel)) ggX2_part_X1_put
set_option maxRecDepth 20000 in
theorem ggX2_part_X1_add : GoodIn wsX2_part wsX1_add := goodIn_r _ [69, 53, 15, 14, 70, 63, 64, 12, 65, 32, 77, 78, 79, 80] (by decide +kernel) (by decide +kernel)
set_option maxRecDepth 20000 in
theorem gX2_part_X1_add : GoodIn wsX2_part (wsV RX2 87 RX1 yX1_add wsX1_add) := goodIn_app (goodIn_of _ (by decide +kernel)) ggX2_part_X1_add
theorem dX2_part_0 : decode cX2_part 0 = .ok (.aload_n 0, 1) := by decide +kernel
theorem dX2_part_1 : decode cX2_part 1 = .ok (.getfield 19, 3) := by decide +kernel
theorem dX2_part_4 : decode cX2_part 4 = .ok (.iload_n 1, 1) := by decide +kernel
theorem dX2_part_5 : decode cX2_part 5 = .ok (.invokevirtual 90, 3) := by decide +kernel
theorem dX2_part_8 : decode cX2_part 8 = .ok (.ifCond .ne 13, 3) := by decide +kernel
theorem dX2_part_11 : decode cX2_part 11 = .ok (.new 65, 3) := by decide +kernel
theorem dX2_part_14 : decode cX2_part 14 = .ok (.dup, 1) := by decide +kernel
theorem dX2_part_15 : decode cX2_part 15 = .ok (.ldc 93, 2) := by decide +kernel
theorem dX2_part_17 : decode cX2_part 17 = .ok (.invokespecial 69, 3) := by decide +kernel
theorem dX2_part_20 : decode cX2_part 20 = .ok (.athrow, 1) := by decide +kernel
theorem dX2_part_21 : decode cX2_part 21 = .ok (.iload_n 2, 1) := by decide +kernel
theorem dX2_part_22 : decode cX2_part 22 = .ok (.iload_n 3, 1) := by decide +kernel
theorem dX2_part_23 : decode cX2_part 23 = .ok (.invokestatic 38, 3) := by decide +kernel
theorem dX2_part_26 : decode cX2_part 26 = .ok (.ifCond .eq 13, 3) := by decide +kernel
theorem dX2_part_29 : decode cX2_part 29 = .ok (.aload_n 0, 1) := by decide +kernel
theorem dX2_part_30 : decode cX2_part 30 = .ok (.iload_n 1, 1) := by decide +kernel
theorem dX2_part_31 : decode cX2_part 31 = .ok (.iload_n 2, 1) := by decide +kernel
theorem dX2_part_32 : decode cX2_part 32 = .ok (.iload_n 3, 1) := by decide +kernel
theorem dX2_part_33 : decode cX2_part 33 = .ok (.invokevirtual 99, 3) := by decide +kernel
theorem dX2_part_36 : decode cX2_part 36 = .ok (.ifCond .ne 13, 3) := by decide +kernel
theorem dX2_part_39 : decode cX2_part 39 = .ok (.new 42, 3) := by decide +kernel
theorem dX2_part_42 : decode cX2_part 42 = .ok (.dup, 1) := by decide +kernel
theorem dX2_part_43 : decode cX2_part 43 = .ok (.ldc 103, 2) := by decide +kernel
theorem dX2_part_45 : decode cX2_part 45 = .ok (.invokespecial 46, 3) := by decide +kernel
theorem dX2_part_48 : decode cX2_part 48 = .ok (.athrow, 1) := by decide +kernel
theorem dX2_part_49 : decode cX2_part 49 = .ok (.aload_n 0, 1) := by decide +kernel
theorem dX2_part_50 : decode cX2_part 50 = .ok (.getfield 10, 3) := by decide +kernel
theorem dX2_part_53 : decode cX2_part 53 = .ok (.iload_n 2, 1) := by decide +kernel
theorem dX2_part_54 : decode cX2_part 54 = .ok (.iload_n 3, 1) := by decide +kernel
theorem dX2_part_55 : decode cX2_part 55 = .ok (.invokevirtual 49, 3) := by decide +kernel
theorem dX2_part_58 : decode cX2_part 58 = .ok (.ifCond .eq 14, 3) := by decide +kernel
theorem dX2_part_61 : decode cX2_part 61 = .ok (.aload_n 0, 1) := by decide +kernel
theorem dX2_part_62 : decode cX2_part 62 = .ok (.getfield 19, 3) := by decide +kernel
theorem dX2_part_65 : decode cX2_part 65 = .ok (.iconst 2, 1) := by decide +kernel
theorem dX2_part_66 : decode cX2_part 66 = .ok (.invokevirtual 83, 3) := by decide +kernel
theorem dX2_part_69 : decode cX2_part 69 = .ok (.ifCond .ne 13, 3) := by decide +kernel
theorem dX2_part_72 : decode cX2_part 72 = .ok (.new 52, 3) := by decide +kernel
theorem dX2_part_75 : decode cX2_part 75 = .ok (.dup, 1) := by decide +kernel
theorem dX2_part_76 : decode cX2_part 76 = .ok (.ldc 105, 2) := by decide +kernel
theorem dX2_part_78 : decode cX2_part 78 = .ok (.invokespecial 56, 3) := by decide +kernel
theorem dX2_part_81 : decode cX2_part 81 = .ok (.athrow, 1) := by decide +kernel
theorem dX2_part_82 : decode cX2_part 82 = .ok (.aload_n 0, 1) := by decide +kernel
theorem dX2_part_83 : decode cX2_part 83 = .ok (.getfield 19, 3) := by decide +kernel
theorem dX2_part_86 : decode cX2_part 86 = .ok (.iload_n 1, 1) := by decide +kernel
theorem dX2_part_87 : decode cX2_part 87 = .ok (.iconst 0, 1) := by decide +kernel
theorem dX2_part_88 : decode cX2_part 88 = .ok (.invokevirtual 107, 3) := by decide +kernel
theorem dX2_part_91 : decode cX2_part 91 = .ok (.istore 4, 2) := by decide +kernel
theorem dX2_part_93 : decode cX2_part 93 = .ok (.aload_n 0, 1) := by decide +kernel
theorem dX2_part_94 : decode cX2_part 94 = .ok (.getfield 19, 3) := by decide +kernel
theorem dX2_part_97 : decode cX2_part 97 = .ok (.iload_n 1, 1) := by decide +kernel
theorem dX2_part_98 : decode cX2_part 98 = .ok (.iconst 1, 1) := by decide +kernel
theorem dX2_part_99 : decode cX2_part 99 = .ok (.invokevirtual 107, 3) := by decide +kernel
theorem dX2_part_102 : decode cX2_part 102 = .ok (.istore 5, 2) := by decide +kernel
theorem dX2_part_104 : decode cX2_part 104 = .ok (.aload_n 0, 1) := by decide +kernel
theorem dX2_part_105 : decode cX2_part 105 = .ok (.getfield 19, 3) := by decide +kernel
theorem dX2_part_108 : decode cX2_part 108 = .ok (.iload_n 1, 1) := by decide +kernel
theorem dX2_part_109 : decode cX2_part 109 = .ok (.iconst 2, 1) := by decide +kernel
theorem dX2_part_110 : decode cX2_part 110 = .ok (.invokevirtual 107, 3) := by decide +kernel
theorem dX2_part_113 : decode cX2_part 113 = .ok (.istore 6, 2) := by decide +kernel
theorem dX2_part_115 : decode cX2_part 115 = .ok (.aload_n 0, 1) := by decide +kernel
theorem dX2_part_116 : decode cX2_part 116 = .ok (.getfield 10, 3) := by decide +kernel
theorem dX2_part_119 : decode cX2_part 119 = .ok (.iload_n 2, 1) := by decide +kernel
theorem dX2_part_120 : decode cX2_part 120 = .ok (.iload_n 3, 1) := by decide +kernel
theorem dX2_part_121 : decode cX2_part 121 = .ok (.invokevirtual 57, 3) := by decide +kernel
theorem dX2_part_124 : decode cX2_part 124 = .ok (.istore 7, 2) := by decide +kernel
theorem dX2_part_126 : decode cX2_part 126 = .ok (.aload_n 0, 1) := by decide +kernel
theorem dX2_part_127 : decode cX2_part 127 = .ok (.getfield 19, 3) := by decide +kernel
theorem dX2_part_130 : decode cX2_part 130 = .ok (.iload_n 1, 1) := by decide +kernel
theorem dX2_part_131 : decode cX2_part 131 = .ok (.iload 4, 2) := by decide +kernel
theorem dX2_part_133 : decode cX2_part 133 = .ok (.iload 5, 2) := by decide +kernel
theorem dX2_part_135 : decode cX2_part 135 = .ok (.iload 7, 2) := by decide +kernel
theorem dX2_part_137 : decode cX2_part 137 = .ok (.invokevirtual 110, 3) := by decide +kernel
theorem dX2_part_140 : decode cX2_part 140 = .ok (.aload_n 0, 1) := by decide +kernel
theorem dX2_part_141 : decode cX2_part 141 = .ok (.getfield 19, 3) := by decide +kernel
theorem dX2_part_144 : decode cX2_part 144 = .ok (.iload 5, 2) := by decide +kernel
theorem dX2_part_146 : decode cX2_part 146 = .ok (.iload 6, 2) := by decide +kernel
theorem dX2_part_148 : decode cX2_part 148 = .ok (.iload 7, 2) := by decide +kernel
theorem dX2_part_150 : decode cX2_part 150 = .ok (.invokevirtual 87, 3) := by decide +kernel
theorem dX2_part_153 : decode cX2_part 153 = .ok (.pop, 1) := by decide +kernel
theorem dX2_part_154 : decode cX2_part 154 = .ok (.aload_n 0, 1) := by decide +kernel
theorem dX2_part_155 : decode cX2_part 155 = .ok (.getfield 19, 3) := by decide +kernel
theorem dX2_part_158 : decode cX2_part 158 = .ok (.iload 6, 2) := by decide +kernel
theorem dX2_part_160 : decode cX2_part 160 = .ok (.iload 4, 2) := by decide +kernel
theorem dX2_part_162 : decode cX2_part 162 = .ok (.iload 7, 2) := by decide +kernel
theorem dX2_part_164 : decode cX2_part 164 = .ok (.invokevirtual 87, 3) := by decide +kernel
theorem dX2_part_167 : decode cX2_part 167 = .ok (.pop, 1) := by decide +kernel
theorem dX2_part_168 : decode cX2_part 168 = .ok (.iload 7, 2) := by decide +kernel
theorem dX2_part_170 : decode cX2_part 170 = .ok (.ireturn, 1) := by decide +kernel
set_option maxRecDepth 20000 in
theorem ggX2_turn_X2_isEdge : GoodIn wsX2_turn wsX2_isEdge := goodIn_r _ [7, 8, 9, 10, 11, 12, 13, 14, 15, 54, 55, 56, 57, 58, 59, 60, 61, 62, 63] (by decide +kernel) (by decide +kernel)
set_option maxRecDepth 20000 in
theorem gX2_turn_X2_isEdge : GoodIn wsX2_turn (wsV RX2 113 RX2 yX2_isEdge wsX2_isEdge) := goodIn_app (goodIn_of _ (by decide +kernel)) ggX2_turn_X2_isEdge
set_option maxRecDepth 20000 in
theorem ggX2_turn_X2_turnEdge : GoodIn wsX2_turn wsX2_turnEdge := goodIn_r _ [19, 8, 20, 21, 22, 23, 12, 24, 14, 15, 25, 26, 27, 28, 29, 30, 31, 32, 33, 34, 35, 36, 37, 38, 39, 40, 41, 42, 43, 44, 45, 46, 47, 48, 49, 50, 51, 52, 53, 54, 55, 56, 57, 58, 59, 60, 61, 62, 63, 64, 65, 66] (by decide +kernel) (by decide +kernel)
set_option maxRecDepth 20000 in
theorem gX2_turn_X2_turnEdge : GoodIn wsX2_turn (wsV RX2 118 RX2 yX2_turnEdge wsX2_turnEdge) := goodIn_app (goodIn_of _ (by decide +kernel)) ggX2_turn_X2_turnEdge
theorem dX2_turn_0 : decode cX2_turn 0 = .ok (.aload_n 0, 1) := by decide +kernel
theorem dX2_turn_1 : decode cX2_turn 1 = .ok (.iload_n 1, 1) := by decide +kernel
theorem dX2_turn_2 : decode cX2_turn 2 = .ok (.iload_n 2, 1) := by decide +kernel
theorem dX2_turn_3 : decode cX2_turn 3 = .ok (.invokevirtual 113, 3) := by decide +kernel
theorem dX2_turn_6 : decode cX2_turn 6 = .ok (.ifCond .ne 13, 3) := by decide +kernel
theorem dX2_turn_9 : decode cX2_turn 9 = .ok (.new 65, 3) := by decide +kernel
theorem dX2_turn_12 : decode cX2_turn 12 = .ok (.dup, 1) := by decide +kernel
theorem dX2_turn_13 : decode cX2_turn 13 = .ok (.ldc 116, 2) := by decide +kernel
theorem dX2_turn_15 : decode cX2_turn 15 = .ok (.invokespecial 69, 3) := by decide +kernel
theorem dX2_turn_18 : decode cX2_turn 18 = .ok (.athrow, 1) := by decide +kernel
theorem dX2_turn_19 : decode cX2_turn 19 = .ok (.aload_n 0, 1) := by decide +kernel
theorem dX2_turn_20 : decode cX2_turn 20 = .ok (.iload_n 1, 1) := by decide +kernel
theorem dX2_turn_21 : decode cX2_turn 21 = .ok (.iload_n 2, 1) := by decide +kernel
theorem dX2_turn_22 : decode cX2_turn 22 = .ok (.invokevirtual 118, 3) := by decide +kernel
theorem dX2_turn_25 : decode cX2_turn 25 = .ok (.ireturn, 1) := by decide +kernel
set_option maxRecDepth 20000 in
theorem ggX2_improve_X2_turnFirstBadEdge : GoodIn wsX2_improve wsX2_turnFirstBadEdge := goodIn_r _ [7, 8, 9, 10, 11, 12, 13, 14, 15, 16, 17, 18, 19, 20, 21, 22, 6, 23, 24, 25, 26, 27, 28, 29, 30, 31, 32, 33, 34, 35, 36, 37, 38, 39, 40, 41, 42, 43, 44, 45, 46, 47, 48, 49, 50, 51, 52, 53, 54, 55, 56, 57, 58, 59, 60, 61, 62, 63, 64, 65, 66, 67, 68, 69, 70, 71, 72, 73, 74, 75, 76, 77, 78] (by decide +kernel) (by decide +kernel)
set_option maxRecDepth 20000 in
theorem gX2_improve_X2_turnFirstBadEdge : GoodIn wsX2_improve (wsV RX2 123 RX2 yX2_turnFirstBadEdge wsX2_turnFirstBadEdge) := goodIn_app (goodIn_of _ (by decide +kernel)) ggX2_improve_X2_turnFirstBadEdge
theorem dX2_improve_0 : decode cX2_improve 0 = .ok (.iload_n 1, 1) := by decide +kernel
theorem dX2_improve_1 : decode cX2_improve 1 = .ok (.ifCond .lt 10, 3) := by decide +kernel
theorem dX2_improve_4 : decode cX2_improve 4 = .ok (.iload_n 1, 1) := by decide +kernel
theorem dX2_improve_5 : decode cX2_improve 5 = .ok (.sipush 500, 3) := by decide +kernel
theorem dX2_improve_8 : decode cX2_improve 8 = .ok (.if_icmp .le 13, 3) := by decide +kernel
theorem dX2_improve_11 : decode cX2_improve 11 = .ok (.new 42, 3) := by decide +kernel
theorem dX2_improve_14 : decode cX2_improve 14 = .ok (.dup, 1) := by decide +kernel
theorem dX2_improve_15 : decode cX2_improve 15 = .ok (.ldc 121, 2) := by decide +kernel
theorem dX2_improve_17 : decode cX2_improve 17 = .ok (.invokespecial 46, 3) := by decide +kernel
theorem dX2_improve_20 : decode cX2_improve 20 = .ok (.athrow, 1) := by decide +kernel
theorem dX2_improve_21 : decode cX2_improve 21 = .ok (.iconst 0, 1) := by decide +kernel
theorem dX2_improve_22 : decode cX2_improve 22 = .ok (.istore_n 2, 1) := by decide +kernel
theorem dX2_improve_23 : decode cX2_improve 23 = .ok (.iload_n 2, 1) := by decide +kernel
theorem dX2_improve_24 : decode cX2_improve 24 = .ok (.iload_n 1, 1) := by decide +kernel
theorem dX2_improve_25 : decode cX2_improve 25 = .ok (.if_icmp .ge 16, 3) := by decide +kernel
theorem dX2_improve_28 : decode cX2_improve 28 = .ok (.aload_n 0, 1) := by decide +kernel
theorem dX2_improve_29 : decode cX2_improve 29 = .ok (.invokevirtual 123, 3) := by decide +kernel
theorem dX2_improve_32 : decode cX2_improve 32 = .ok (.ifCond .eq 9, 3) := by decide +kernel
theorem dX2_improve_35 : decode cX2_improve 35 = .ok (.iinc 2 1, 3) := by decide +kernel
theorem dX2_improve_38 : decode cX2_improve 38 = .ok (.goto (-15), 3) := by decide +kernel
theorem dX2_improve_41 : decode cX2_improve 41 = .ok (.iload_n 2, 1) := by decide +kernel
theorem dX2_improve_42 : decode cX2_improve 42 = .ok (.ireturn, 1) := by decide +kernel
set_option maxRecDepth 20000 in
theorem ggX2_fault_X1_thereCount : GoodIn wsX2_fault wsX1_thereCount := goodIn_r _ [6, 7, 135, 136, 137, 138] (by decide +kernel) (by decide +kernel)
set_option maxRecDepth 20000 in
theorem gX2_fault_X1_thereCount : GoodIn wsX2_fault (wsV RX2 127 RX1 yX1_thereCount wsX1_thereCount) := goodIn_app (goodIn_of _ (by decide +kernel)) ggX2_fault_X1_thereCount
set_option maxRecDepth 20000 in
theorem ggX2_fault_X1_numberAt : GoodIn wsX2_fault wsX1_numberAt := goodIn_r _ [11, 12, 135, 136, 137, 138] (by decide +kernel) (by decide +kernel)
set_option maxRecDepth 20000 in
theorem gX2_fault_X1_numberAt : GoodIn wsX2_fault (wsV RX2 131 RX1 yX1_numberAt wsX1_numberAt) := goodIn_app (goodIn_of _ (by decide +kernel)) ggX2_fault_X1_numberAt
set_option maxRecDepth 20000 in
theorem ggX2_fault_X2_isRight : GoodIn wsX2_fault wsX2_isRight := goodIn_r _ [17, 18, 19, 20, 16, 21, 22, 1, 23, 24, 25, 5, 26, 27, 28, 29, 30, 31, 32, 33, 34, 35, 36, 37, 38, 129, 130, 131, 132, 133, 134, 135, 136, 137, 138, 139, 140, 141] (by decide +kernel) (by decide +kernel)
set_option maxRecDepth 20000 in
theorem gX2_fault_X2_isRight : GoodIn wsX2_fault (wsV RX2 135 RX2 yX2_isRight wsX2_isRight) := goodIn_app (goodIn_of _ (by decide +kernel)) ggX2_fault_X2_isRight
set_option maxRecDepth 20000 in
theorem ggX2_fault_X2_rememberCulprits : GoodIn wsX2_fault wsX2_rememberCulprits := goodIn_r _ [42, 43, 44, 129, 130, 131, 132, 133, 134] (by decide +kernel) (by decide +kernel)
set_option maxRecDepth 20000 in
theorem gX2_fault_X2_rememberCulprits : GoodIn wsX2_fault (wsV RX2 138 RX2 yX2_rememberCulprits wsX2_rememberCulprits) := goodIn_app (goodIn_of _ (by decide +kernel)) ggX2_fault_X2_rememberCulprits
set_option maxRecDepth 20000 in
theorem ggX2_fault_X2_firstUntidyBefore : GoodIn wsX2_fault wsX2_firstUntidyBefore := goodIn_r _ [48, 1, 8, 9, 10, 5, 11, 12, 49, 50, 51, 16, 52, 53, 54, 55, 56, 57, 58, 59, 60, 61, 62, 63, 64, 65, 66, 67, 68, 22, 23, 24, 25, 26, 27, 69, 70, 71, 31, 72, 33, 73, 74, 75, 76, 77, 78, 79, 80, 81, 82, 83, 84, 85, 86, 87, 88, 89, 90, 91, 34, 92, 93, 94, 95, 96, 97, 98, 99, 100, 101, 102, 103, 104, 105, 106, 107, 108, 109, 110, 111, 112, 113, 114, 115, 116, 36, 37, 38, 117, 118, 119, 120, 121, 122, 123, 124, 125, 29, 30, 32, 35, 126, 127, 128, 129, 130, 131, 132, 133, 134, 135, 136, 137, 138, 139, 140, 141] (by decide +kernel) (by decide +kernel)
set_option maxRecDepth 20000 in
theorem gX2_fault_X2_firstUntidyBefore : GoodIn wsX2_fault (wsV RX2 142 RX2 yX2_firstUntidyBefore wsX2_firstUntidyBefore) := goodIn_app (goodIn_of _ (by decide +kernel)) ggX2_fault_X2_firstUntidyBefore
theorem dX2_fault_0 : decode cX2_fault 0 = .ok (.iconst 0, 1) := by decide +kernel
theorem dX2_fault_1 : decode cX2_fault 1 = .ok (.istore_n 1, 1) := by decide +kernel
theorem dX2_fault_2 : decode cX2_fault 2 = .ok (.iload_n 1, 1) := by decide +kernel
theorem dX2_fault_3 : decode cX2_fault 3 = .ok (.aload_n 0, 1) := by decide +kernel
theorem dX2_fault_4 : decode cX2_fault 4 = .ok (.getfield 19, 3) := by decide +kernel
theorem dX2_fault_7 : decode cX2_fault 7 = .ok (.invokevirtual 127, 3) := by decide +kernel
theorem dX2_fault_10 : decode cX2_fault 10 = .ok (.if_icmp .ge 53, 3) := by decide +kernel
theorem dX2_fault_13 : decode cX2_fault 13 = .ok (.aload_n 0, 1) := by decide +kernel
theorem dX2_fault_14 : decode cX2_fault 14 = .ok (.getfield 19, 3) := by decide +kernel
theorem dX2_fault_17 : decode cX2_fault 17 = .ok (.iload_n 1, 1) := by decide +kernel
theorem dX2_fault_18 : decode cX2_fault 18 = .ok (.invokevirtual 131, 3) := by decide +kernel
theorem dX2_fault_21 : decode cX2_fault 21 = .ok (.istore_n 2, 1) := by decide +kernel
theorem dX2_fault_22 : decode cX2_fault 22 = .ok (.aload_n 0, 1) := by decide +kernel
theorem dX2_fault_23 : decode cX2_fault 23 = .ok (.iload_n 2, 1) := by decide +kernel
theorem dX2_fault_24 : decode cX2_fault 24 = .ok (.invokevirtual 135, 3) := by decide +kernel
theorem dX2_fault_27 : decode cX2_fault 27 = .ok (.ifCond .ne 11, 3) := by decide +kernel
theorem dX2_fault_30 : decode cX2_fault 30 = .ok (.aload_n 0, 1) := by decide +kernel
theorem dX2_fault_31 : decode cX2_fault 31 = .ok (.iload_n 2, 1) := by decide +kernel
theorem dX2_fault_32 : decode cX2_fault 32 = .ok (.iconst (-1), 1) := by decide +kernel
theorem dX2_fault_33 : decode cX2_fault 33 = .ok (.invokevirtual 138, 3) := by decide +kernel
theorem dX2_fault_36 : decode cX2_fault 36 = .ok (.iconst 1, 1) := by decide +kernel
theorem dX2_fault_37 : decode cX2_fault 37 = .ok (.ireturn, 1) := by decide +kernel
theorem dX2_fault_38 : decode cX2_fault 38 = .ok (.aload_n 0, 1) := by decide +kernel
theorem dX2_fault_39 : decode cX2_fault 39 = .ok (.iload_n 1, 1) := by decide +kernel
theorem dX2_fault_40 : decode cX2_fault 40 = .ok (.invokevirtual 142, 3) := by decide +kernel
theorem dX2_fault_43 : decode cX2_fault 43 = .ok (.istore_n 3, 1) := by decide +kernel
theorem dX2_fault_44 : decode cX2_fault 44 = .ok (.iload_n 3, 1) := by decide +kernel
theorem dX2_fault_45 : decode cX2_fault 45 = .ok (.iconst (-1), 1) := by decide +kernel
theorem dX2_fault_46 : decode cX2_fault 46 = .ok (.if_icmp .eq 11, 3) := by decide +kernel
theorem dX2_fault_49 : decode cX2_fault 49 = .ok (.aload_n 0, 1) := by decide +kernel
theorem dX2_fault_50 : decode cX2_fault 50 = .ok (.iload_n 2, 1) := by decide +kernel
theorem dX2_fault_51 : decode cX2_fault 51 = .ok (.iload_n 3, 1) := by decide +kernel
theorem dX2_fault_52 : decode cX2_fault 52 = .ok (.invokevirtual 138, 3) := by decide +kernel
theorem dX2_fault_55 : decode cX2_fault 55 = .ok (.iconst 2, 1) := by decide +kernel
theorem dX2_fault_56 : decode cX2_fault 56 = .ok (.ireturn, 1) := by decide +kernel
theorem dX2_fault_57 : decode cX2_fault 57 = .ok (.iinc 1 1, 3) := by decide +kernel
theorem dX2_fault_60 : decode cX2_fault 60 = .ok (.goto (-58), 3) := by decide +kernel
theorem dX2_fault_63 : decode cX2_fault 63 = .ok (.iconst 0, 1) := by decide +kernel
theorem dX2_fault_64 : decode cX2_fault 64 = .ok (.ireturn, 1) := by decide +kernel
theorem dX2_culprit_0 : decode cX2_culprit 0 = .ok (.iload_n 1, 1) := by decide +kernel
theorem dX2_culprit_1 : decode cX2_culprit 1 = .ok (.lookupswitch 37 #[(0, 27), (1, 32)], 27) := by decide +kernel
theorem dX2_culprit_28 : decode cX2_culprit 28 = .ok (.aload_n 0, 1) := by decide +kernel
theorem dX2_culprit_29 : decode cX2_culprit 29 = .ok (.getfield 31, 3) := by decide +kernel
theorem dX2_culprit_32 : decode cX2_culprit 32 = .ok (.ireturn, 1) := by decide +kernel
theorem dX2_culprit_33 : decode cX2_culprit 33 = .ok (.aload_n 0, 1) := by decide +kernel
theorem dX2_culprit_34 : decode cX2_culprit 34 = .ok (.getfield 35, 3) := by decide +kernel
theorem dX2_culprit_37 : decode cX2_culprit 37 = .ok (.ireturn, 1) := by decide +kernel
theorem dX2_culprit_38 : decode cX2_culprit 38 = .ok (.iconst (-1), 1) := by decide +kernel
theorem dX2_culprit_39 : decode cX2_culprit 39 = .ok (.ireturn, 1) := by decide +kernel
set_option maxRecDepth 20000 in
theorem ggX2_covers_X2_isPixel : GoodIn wsX2_covers wsX2_isPixel := goodIn_r _ [5] (by decide +kernel) (by decide +kernel)
set_option maxRecDepth 20000 in
theorem gX2_covers_X2_isPixel : GoodIn wsX2_covers (va_wsS RX2 145 yX2_isPixel wsX2_isPixel) := goodIn_app (goodIn_of _ (by decide +kernel)) ggX2_covers_X2_isPixel
set_option maxRecDepth 20000 in
theorem ggX2_covers_X1_thereCount : GoodIn wsX2_covers wsX1_thereCount := goodIn_r _ [10, 11, 76, 77, 78, 79] (by decide +kernel) (by decide +kernel)
set_option maxRecDepth 20000 in
theorem gX2_covers_X1_thereCount : GoodIn wsX2_covers (wsV RX2 127 RX1 yX1_thereCount wsX1_thereCount) := goodIn_app (goodIn_of _ (by decide +kernel)) ggX2_covers_X1_thereCount
set_option maxRecDepth 20000 in
theorem ggX2_covers_X1_numberAt : GoodIn wsX2_covers wsX1_numberAt := goodIn_r _ [15, 16, 76, 77, 78, 79] (by decide +kernel) (by decide +kernel)
set_option maxRecDepth 20000 in
theorem gX2_covers_X1_numberAt : GoodIn wsX2_covers (wsV RX2 131 RX1 yX1_numberAt wsX1_numberAt) := goodIn_app (goodIn_of _ (by decide +kernel)) ggX2_covers_X1_numberAt
set_option maxRecDepth 20000 in
theorem ggX2_covers_X2_coversPixel : GoodIn wsX2_covers wsX2_coversPixel := goodIn_r _ [20, 21, 22, 23, 4, 24, 25, 26, 27, 28, 29, 1, 30, 31, 32, 9, 33, 34, 35, 36, 37, 38, 39, 40, 41, 42, 43, 44, 45, 46, 47, 48, 49, 50, 51, 52, 53, 54, 55, 56, 57, 58, 59, 60, 61, 62, 63, 64, 65, 66, 67, 68, 69, 70, 71, 72, 73, 74, 75, 76, 77, 78, 79, 80, 81, 82] (by decide +kernel) (by decide +kernel)
set_option maxRecDepth 20000 in
theorem gX2_covers_X2_coversPixel : GoodIn wsX2_covers (wsV RX2 148 RX2 yX2_coversPixel wsX2_coversPixel) := goodIn_app (goodIn_of _ (by decide +kernel)) ggX2_covers_X2_coversPixel
theorem dX2_covers_0 : decode cX2_covers 0 = .ok (.iload_n 1, 1) := by decide +kernel
theorem dX2_covers_1 : decode cX2_covers 1 = .ok (.iload_n 2, 1) := by decide +kernel
theorem dX2_covers_2 : decode cX2_covers 2 = .ok (.invokestatic 145, 3) := by decide +kernel
theorem dX2_covers_5 : decode cX2_covers 5 = .ok (.ifCond .ne 5, 3) := by decide +kernel
theorem dX2_covers_8 : decode cX2_covers 8 = .ok (.iconst 0, 1) := by decide +kernel
theorem dX2_covers_9 : decode cX2_covers 9 = .ok (.ireturn, 1) := by decide +kernel
theorem dX2_covers_10 : decode cX2_covers 10 = .ok (.iconst 0, 1) := by decide +kernel
theorem dX2_covers_11 : decode cX2_covers 11 = .ok (.istore_n 3, 1) := by decide +kernel
theorem dX2_covers_12 : decode cX2_covers 12 = .ok (.iconst 0, 1) := by decide +kernel
theorem dX2_covers_13 : decode cX2_covers 13 = .ok (.istore 4, 2) := by decide +kernel
theorem dX2_covers_15 : decode cX2_covers 15 = .ok (.iload 4, 2) := by decide +kernel
theorem dX2_covers_17 : decode cX2_covers 17 = .ok (.aload_n 0, 1) := by decide +kernel
theorem dX2_covers_18 : decode cX2_covers 18 = .ok (.getfield 19, 3) := by decide +kernel
theorem dX2_covers_21 : decode cX2_covers 21 = .ok (.invokevirtual 127, 3) := by decide +kernel
theorem dX2_covers_24 : decode cX2_covers 24 = .ok (.if_icmp .ge 30, 3) := by decide +kernel
theorem dX2_covers_27 : decode cX2_covers 27 = .ok (.aload_n 0, 1) := by decide +kernel
theorem dX2_covers_28 : decode cX2_covers 28 = .ok (.aload_n 0, 1) := by decide +kernel
theorem dX2_covers_29 : decode cX2_covers 29 = .ok (.getfield 19, 3) := by decide +kernel
theorem dX2_covers_32 : decode cX2_covers 32 = .ok (.iload 4, 2) := by decide +kernel
theorem dX2_covers_34 : decode cX2_covers 34 = .ok (.invokevirtual 131, 3) := by decide +kernel
theorem dX2_covers_37 : decode cX2_covers 37 = .ok (.iload_n 1, 1) := by decide +kernel
theorem dX2_covers_38 : decode cX2_covers 38 = .ok (.iload_n 2, 1) := by decide +kernel
theorem dX2_covers_39 : decode cX2_covers 39 = .ok (.invokevirtual 148, 3) := by decide +kernel
theorem dX2_covers_42 : decode cX2_covers 42 = .ok (.ifCond .eq 6, 3) := by decide +kernel
theorem dX2_covers_45 : decode cX2_covers 45 = .ok (.iinc 3 1, 3) := by decide +kernel
theorem dX2_covers_48 : decode cX2_covers 48 = .ok (.iinc 4 1, 3) := by decide +kernel
theorem dX2_covers_51 : decode cX2_covers 51 = .ok (.goto (-36), 3) := by decide +kernel
theorem dX2_covers_54 : decode cX2_covers 54 = .ok (.iload_n 3, 1) := by decide +kernel
theorem dX2_covers_55 : decode cX2_covers 55 = .ok (.ireturn, 1) := by decide +kernel
set_option maxRecDepth 20000 in
theorem ggX2_who_X2_isPixel : GoodIn wsX2_who wsX2_isPixel := goodIn_r _ [5] (by decide +kernel) (by decide +kernel)
set_option maxRecDepth 20000 in
theorem gX2_who_X2_isPixel : GoodIn wsX2_who (va_wsS RX2 145 yX2_isPixel wsX2_isPixel) := goodIn_app (goodIn_of _ (by decide +kernel)) ggX2_who_X2_isPixel
set_option maxRecDepth 20000 in
theorem ggX2_who_X1_thereCount : GoodIn wsX2_who wsX1_thereCount := goodIn_r _ [10, 11, 76, 77, 78, 79] (by decide +kernel) (by decide +kernel)
set_option maxRecDepth 20000 in
theorem gX2_who_X1_thereCount : GoodIn wsX2_who (wsV RX2 127 RX1 yX1_thereCount wsX1_thereCount) := goodIn_app (goodIn_of _ (by decide +kernel)) ggX2_who_X1_thereCount
set_option maxRecDepth 20000 in
theorem ggX2_who_X1_numberAt : GoodIn wsX2_who wsX1_numberAt := goodIn_r _ [15, 16, 76, 77, 78, 79] (by decide +kernel) (by decide +kernel)
set_option maxRecDepth 20000 in
theorem gX2_who_X1_numberAt : GoodIn wsX2_who (wsV RX2 131 RX1 yX1_numberAt wsX1_numberAt) := goodIn_app (goodIn_of _ (by decide +kernel)) ggX2_who_X1_numberAt
set_option maxRecDepth 20000 in
theorem ggX2_who_X2_coversPixel : GoodIn wsX2_who wsX2_coversPixel := goodIn_r _ [20, 21, 22, 23, 4, 24, 25, 26, 27, 28, 29, 1, 30, 31, 32, 9, 33, 34, 35, 36, 37, 38, 39, 40, 41, 42, 43, 44, 45, 46, 47, 48, 49, 50, 51, 52, 53, 54, 55, 56, 57, 58, 59, 60, 61, 62, 63, 64, 65, 66, 67, 68, 69, 70, 71, 72, 73, 74, 75, 76, 77, 78, 79, 80, 81, 82] (by decide +kernel) (by decide +kernel)
set_option maxRecDepth 20000 in
theorem gX2_who_X2_coversPixel : GoodIn wsX2_who (wsV RX2 148 RX2 yX2_coversPixel wsX2_coversPixel) := goodIn_app (goodIn_of _ (by decide +kernel)) ggX2_who_X2_coversPixel
theorem dX2_who_0 : decode cX2_who 0 = .ok (.iload_n 1, 1) := by decide +kernel
theorem dX2_who_1 : decode cX2_who 1 = .ok (.iload_n 2, 1) := by decide +kernel
theorem dX2_who_2 : decode cX2_who 2 = .ok (.invokestatic 145, 3) := by decide +kernel
theorem dX2_who_5 : decode cX2_who 5 = .ok (.ifCond .ne 5, 3) := by decide +kernel
theorem dX2_who_8 : decode cX2_who 8 = .ok (.iconst (-1), 1) := by decide +kernel
theorem dX2_who_9 : decode cX2_who 9 = .ok (.ireturn, 1) := by decide +kernel
theorem dX2_who_10 : decode cX2_who 10 = .ok (.iconst 0, 1) := by decide +kernel
theorem dX2_who_11 : decode cX2_who 11 = .ok (.istore_n 3, 1) := by decide +kernel
theorem dX2_who_12 : decode cX2_who 12 = .ok (.iload_n 3, 1) := by decide +kernel
theorem dX2_who_13 : decode cX2_who 13 = .ok (.aload_n 0, 1) := by decide +kernel
theorem dX2_who_14 : decode cX2_who 14 = .ok (.getfield 19, 3) := by decide +kernel
theorem dX2_who_17 : decode cX2_who 17 = .ok (.invokevirtual 127, 3) := by decide +kernel
theorem dX2_who_20 : decode cX2_who 20 = .ok (.if_icmp .ge 33, 3) := by decide +kernel
theorem dX2_who_23 : decode cX2_who 23 = .ok (.aload_n 0, 1) := by decide +kernel
theorem dX2_who_24 : decode cX2_who 24 = .ok (.getfield 19, 3) := by decide +kernel
theorem dX2_who_27 : decode cX2_who 27 = .ok (.iload_n 3, 1) := by decide +kernel
theorem dX2_who_28 : decode cX2_who 28 = .ok (.invokevirtual 131, 3) := by decide +kernel
theorem dX2_who_31 : decode cX2_who 31 = .ok (.istore 4, 2) := by decide +kernel
theorem dX2_who_33 : decode cX2_who 33 = .ok (.aload_n 0, 1) := by decide +kernel
theorem dX2_who_34 : decode cX2_who 34 = .ok (.iload 4, 2) := by decide +kernel
theorem dX2_who_36 : decode cX2_who 36 = .ok (.iload_n 1, 1) := by decide +kernel
theorem dX2_who_37 : decode cX2_who 37 = .ok (.iload_n 2, 1) := by decide +kernel
theorem dX2_who_38 : decode cX2_who 38 = .ok (.invokevirtual 148, 3) := by decide +kernel
theorem dX2_who_41 : decode cX2_who 41 = .ok (.ifCond .eq 6, 3) := by decide +kernel
theorem dX2_who_44 : decode cX2_who 44 = .ok (.iload 4, 2) := by decide +kernel
theorem dX2_who_46 : decode cX2_who 46 = .ok (.ireturn, 1) := by decide +kernel
theorem dX2_who_47 : decode cX2_who 47 = .ok (.iinc 3 1, 3) := by decide +kernel
theorem dX2_who_50 : decode cX2_who 50 = .ok (.goto (-38), 3) := by decide +kernel
theorem dX2_who_53 : decode cX2_who 53 = .ok (.iconst (-1), 1) := by decide +kernel
theorem dX2_who_54 : decode cX2_who 54 = .ok (.ireturn, 1) := by decide +kernel
set_option maxRecDepth 20000 in
theorem ggX2_painted_X2_paintedPixels : GoodIn wsX2_painted wsX2_paintedPixels := goodIn_r _ [6, 7, 8, 9, 5, 10, 11, 12, 13, 14, 15, 16, 17, 18, 19, 20, 21, 22, 23, 24, 25, 26, 27, 28, 29, 30, 31, 32, 33, 34, 35, 36, 37, 38, 39, 40, 41, 42, 43, 44, 45, 46, 47, 48, 49, 50, 51, 52, 53, 54, 55, 56, 57, 58, 59, 60, 61, 62, 63, 64, 65, 66, 67, 68, 69, 70, 71, 72, 73, 74, 75, 76, 77, 78, 79, 80, 81, 82, 83, 84, 85, 86, 87, 88, 89, 90, 91, 92, 93, 94, 95, 96, 97, 98, 99, 100, 101, 102, 103, 104, 105, 106, 107, 108, 109, 110, 111, 112, 113, 118, 119, 120, 121, 122, 123, 124, 125, 126, 127, 128, 129, 130] (by decide +kernel) (by decide +kernel)
set_option maxRecDepth 20000 in
theorem gX2_painted_X2_paintedPixels : GoodIn wsX2_painted (wsV RX2 151 RX2 yX2_paintedPixels wsX2_paintedPixels) := goodIn_app (goodIn_of _ (by decide +kernel)) ggX2_painted_X2_paintedPixels
set_option maxRecDepth 20000 in
theorem ggX2_painted_X2_sumOfTurns : GoodIn wsX2_painted wsX2_sumOfTurns := goodIn_r _ [117, 11, 55, 56, 33, 57, 12, 13, 14, 15, 16, 17, 18, 19, 20, 21, 22, 62, 63, 64, 5, 65, 39, 40, 41, 42, 43, 44, 66, 67, 68, 48, 69, 70, 50, 71, 72, 73, 74, 118, 119, 120, 121, 122, 123, 124, 125, 126, 127, 128, 129, 130] (by decide +kernel) (by decide +kernel)
set_option maxRecDepth 20000 in
theorem gX2_painted_X2_sumOfTurns : GoodIn wsX2_painted (wsV RX2 155 RX2 yX2_sumOfTurns wsX2_sumOfTurns) := goodIn_app (goodIn_of _ (by decide +kernel)) ggX2_painted_X2_sumOfTurns
theorem dX2_painted_0 : decode cX2_painted 0 = .ok (.iload_n 1, 1) := by decide +kernel
theorem dX2_painted_1 : decode cX2_painted 1 = .ok (.tableswitch 42 0 3 #[31, 31, 31, 37], 31) := by decide +kernel
theorem dX2_painted_32 : decode cX2_painted 32 = .ok (.aload_n 0, 1) := by decide +kernel
