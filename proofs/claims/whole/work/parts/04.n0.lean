theorem dX0_init_0 : decode cX0_init 0 = .ok (.aload_n 0, 1) := by decide +kernel
theorem dX0_init_1 : decode cX0_init 1 = .ok (.invokespecial 3, 3) := by decide +kernel
theorem dX0_init_4 : decode cX0_init 4 = .ok (.aload_n 0, 1) := by decide +kernel
theorem dX0_init_5 : decode cX0_init 5 = .ok (.bipush 60, 2) := by decide +kernel
theorem dX0_init_7 : decode cX0_init 7 = .ok (.newarray .int, 2) := by decide +kernel
theorem dX0_init_9 : decode cX0_init 9 = .ok (.putfield 9, 3) := by decide +kernel
theorem dX0_init_12 : decode cX0_init 12 = .ok (.aload_n 0, 1) := by decide +kernel
theorem dX0_init_13 : decode cX0_init 13 = .ok (.bipush 60, 2) := by decide +kernel
theorem dX0_init_15 : decode cX0_init 15 = .ok (.newarray .int, 2) := by decide +kernel
theorem dX0_init_17 : decode cX0_init 17 = .ok (.putfield 15, 3) := by decide +kernel
theorem dX0_init_20 : decode cX0_init 20 = .ok (.aload_n 0, 1) := by decide +kernel
theorem dX0_init_21 : decode cX0_init 21 = .ok (.iconst 0, 1) := by decide +kernel
theorem dX0_init_22 : decode cX0_init 22 = .ok (.putfield 18, 3) := by decide +kernel
theorem dX0_init_25 : decode cX0_init 25 = .ok (.return_, 1) := by decide +kernel
theorem dX0_came_0 : decode cX0_came 0 = .ok (.aload_n 0, 1) := by decide +kernel
theorem dX0_came_1 : decode cX0_came 1 = .ok (.getfield 18, 3) := by decide +kernel
theorem dX0_came_4 : decode cX0_came 4 = .ok (.ireturn, 1) := by decide +kernel
theorem dX0_isPoint_0 : decode cX0_isPoint 0 = .ok (.iload_n 1, 1) := by decide +kernel
theorem dX0_isPoint_1 : decode cX0_isPoint 1 = .ok (.ifCond .lt 15, 3) := by decide +kernel
theorem dX0_isPoint_4 : decode cX0_isPoint 4 = .ok (.iload_n 1, 1) := by decide +kernel
theorem dX0_isPoint_5 : decode cX0_isPoint 5 = .ok (.aload_n 0, 1) := by decide +kernel
theorem dX0_isPoint_6 : decode cX0_isPoint 6 = .ok (.getfield 18, 3) := by decide +kernel
theorem dX0_isPoint_9 : decode cX0_isPoint 9 = .ok (.if_icmp .ge 7, 3) := by decide +kernel
theorem dX0_isPoint_12 : decode cX0_isPoint 12 = .ok (.iconst 1, 1) := by decide +kernel
theorem dX0_isPoint_13 : decode cX0_isPoint 13 = .ok (.goto 4, 3) := by decide +kernel
theorem dX0_isPoint_16 : decode cX0_isPoint 16 = .ok (.iconst 0, 1) := by decide +kernel
theorem dX0_isPoint_17 : decode cX0_isPoint 17 = .ok (.ireturn, 1) := by decide +kernel
theorem dX0_x_0 : decode cX0_x 0 = .ok (.aload_n 0, 1) := by decide +kernel
theorem dX0_x_1 : decode cX0_x 1 = .ok (.getfield 9, 3) := by decide +kernel
theorem dX0_x_4 : decode cX0_x 4 = .ok (.iload_n 1, 1) := by decide +kernel
theorem dX0_x_5 : decode cX0_x 5 = .ok (.iaload, 1) := by decide +kernel
theorem dX0_x_6 : decode cX0_x 6 = .ok (.ireturn, 1) := by decide +kernel
theorem dX0_y_0 : decode cX0_y 0 = .ok (.aload_n 0, 1) := by decide +kernel
theorem dX0_y_1 : decode cX0_y 1 = .ok (.getfield 15, 3) := by decide +kernel
theorem dX0_y_4 : decode cX0_y 4 = .ok (.iload_n 1, 1) := by decide +kernel
theorem dX0_y_5 : decode cX0_y 5 = .ok (.iaload, 1) := by decide +kernel
theorem dX0_y_6 : decode cX0_y 6 = .ok (.ireturn, 1) := by decide +kernel
theorem dX0_pointAt_0 : decode cX0_pointAt 0 = .ok (.iconst 0, 1) := by decide +kernel
theorem dX0_pointAt_1 : decode cX0_pointAt 1 = .ok (.istore_n 3, 1) := by decide +kernel
theorem dX0_pointAt_2 : decode cX0_pointAt 2 = .ok (.iload_n 3, 1) := by decide +kernel
theorem dX0_pointAt_3 : decode cX0_pointAt 3 = .ok (.aload_n 0, 1) := by decide +kernel
theorem dX0_pointAt_4 : decode cX0_pointAt 4 = .ok (.getfield 18, 3) := by decide +kernel
theorem dX0_pointAt_7 : decode cX0_pointAt 7 = .ok (.if_icmp .ge 31, 3) := by decide +kernel
theorem dX0_pointAt_10 : decode cX0_pointAt 10 = .ok (.aload_n 0, 1) := by decide +kernel
theorem dX0_pointAt_11 : decode cX0_pointAt 11 = .ok (.getfield 9, 3) := by decide +kernel
theorem dX0_pointAt_14 : decode cX0_pointAt 14 = .ok (.iload_n 3, 1) := by decide +kernel
theorem dX0_pointAt_15 : decode cX0_pointAt 15 = .ok (.iaload, 1) := by decide +kernel
theorem dX0_pointAt_16 : decode cX0_pointAt 16 = .ok (.iload_n 1, 1) := by decide +kernel
theorem dX0_pointAt_17 : decode cX0_pointAt 17 = .ok (.if_icmp .ne 15, 3) := by decide +kernel
theorem dX0_pointAt_20 : decode cX0_pointAt 20 = .ok (.aload_n 0, 1) := by decide +kernel
theorem dX0_pointAt_21 : decode cX0_pointAt 21 = .ok (.getfield 15, 3) := by decide +kernel
theorem dX0_pointAt_24 : decode cX0_pointAt 24 = .ok (.iload_n 3, 1) := by decide +kernel
theorem dX0_pointAt_25 : decode cX0_pointAt 25 = .ok (.iaload, 1) := by decide +kernel
theorem dX0_pointAt_26 : decode cX0_pointAt 26 = .ok (.iload_n 2, 1) := by decide +kernel
theorem dX0_pointAt_27 : decode cX0_pointAt 27 = .ok (.if_icmp .ne 5, 3) := by decide +kernel
theorem dX0_pointAt_30 : decode cX0_pointAt 30 = .ok (.iload_n 3, 1) := by decide +kernel
theorem dX0_pointAt_31 : decode cX0_pointAt 31 = .ok (.ireturn, 1) := by decide +kernel
theorem dX0_pointAt_32 : decode cX0_pointAt 32 = .ok (.iinc 3 1, 3) := by decide +kernel
theorem dX0_pointAt_35 : decode cX0_pointAt 35 = .ok (.goto (-33), 3) := by decide +kernel
theorem dX0_pointAt_38 : decode cX0_pointAt 38 = .ok (.iconst (-1), 1) := by decide +kernel
theorem dX0_pointAt_39 : decode cX0_pointAt 39 = .ok (.ireturn, 1) := by decide +kernel
set_option maxRecDepth 20000 in
theorem ggX0_canAdd_X0_pointAt : GoodIn wsX0_canAdd wsX0_pointAt := goodIn_r _ [6, 1, 7, 8, 9, 10, 11] (by decide +kernel) (by decide +kernel)
set_option maxRecDepth 20000 in
theorem gX0_canAdd_X0_pointAt : GoodIn wsX0_canAdd (wsV RX0 22 RX0 yX0_pointAt wsX0_pointAt) := goodIn_app (goodIn_of _ (by decide +kernel)) ggX0_canAdd_X0_pointAt
theorem dX0_canAdd_0 : decode cX0_canAdd 0 = .ok (.aload_n 0, 1) := by decide +kernel
theorem dX0_canAdd_1 : decode cX0_canAdd 1 = .ok (.getfield 18, 3) := by decide +kernel
theorem dX0_canAdd_4 : decode cX0_canAdd 4 = .ok (.bipush 60, 2) := by decide +kernel
theorem dX0_canAdd_6 : decode cX0_canAdd 6 = .ok (.if_icmp .ge 17, 3) := by decide +kernel
theorem dX0_canAdd_9 : decode cX0_canAdd 9 = .ok (.aload_n 0, 1) := by decide +kernel
theorem dX0_canAdd_10 : decode cX0_canAdd 10 = .ok (.iload_n 1, 1) := by decide +kernel
theorem dX0_canAdd_11 : decode cX0_canAdd 11 = .ok (.iload_n 2, 1) := by decide +kernel
theorem dX0_canAdd_12 : decode cX0_canAdd 12 = .ok (.invokevirtual 22, 3) := by decide +kernel
theorem dX0_canAdd_15 : decode cX0_canAdd 15 = .ok (.iconst (-1), 1) := by decide +kernel
theorem dX0_canAdd_16 : decode cX0_canAdd 16 = .ok (.if_icmp .ne 7, 3) := by decide +kernel
theorem dX0_canAdd_19 : decode cX0_canAdd 19 = .ok (.iconst 1, 1) := by decide +kernel
theorem dX0_canAdd_20 : decode cX0_canAdd 20 = .ok (.goto 4, 3) := by decide +kernel
theorem dX0_canAdd_23 : decode cX0_canAdd 23 = .ok (.iconst 0, 1) := by decide +kernel
theorem dX0_canAdd_24 : decode cX0_canAdd 24 = .ok (.ireturn, 1) := by decide +kernel
set_option maxRecDepth 20000 in
theorem ggX0_add_X0_put : GoodIn wsX0_add wsX0_put := goodIn_r _ [6, 7, 8, 9, 10, 11] (by decide +kernel) (by decide +kernel)
set_option maxRecDepth 20000 in
theorem gX0_add_X0_put : GoodIn wsX0_add (wsV RX0 26 RX0 yX0_put wsX0_put) := goodIn_app (goodIn_of _ (by decide +kernel)) ggX0_add_X0_put
theorem dX0_add_0 : decode cX0_add 0 = .ok (.aload_n 0, 1) := by decide +kernel
theorem dX0_add_1 : decode cX0_add 1 = .ok (.getfield 18, 3) := by decide +kernel
theorem dX0_add_4 : decode cX0_add 4 = .ok (.istore_n 3, 1) := by decide +kernel
theorem dX0_add_5 : decode cX0_add 5 = .ok (.aload_n 0, 1) := by decide +kernel
theorem dX0_add_6 : decode cX0_add 6 = .ok (.dup, 1) := by decide +kernel
theorem dX0_add_7 : decode cX0_add 7 = .ok (.getfield 18, 3) := by decide +kernel
theorem dX0_add_10 : decode cX0_add 10 = .ok (.iconst 1, 1) := by decide +kernel
theorem dX0_add_11 : decode cX0_add 11 = .ok (.iadd, 1) := by decide +kernel
theorem dX0_add_12 : decode cX0_add 12 = .ok (.putfield 18, 3) := by decide +kernel
theorem dX0_add_15 : decode cX0_add 15 = .ok (.aload_n 0, 1) := by decide +kernel
theorem dX0_add_16 : decode cX0_add 16 = .ok (.iload_n 3, 1) := by decide +kernel
theorem dX0_add_17 : decode cX0_add 17 = .ok (.iload_n 1, 1) := by decide +kernel
theorem dX0_add_18 : decode cX0_add 18 = .ok (.iload_n 2, 1) := by decide +kernel
theorem dX0_add_19 : decode cX0_add 19 = .ok (.invokevirtual 26, 3) := by decide +kernel
theorem dX0_add_22 : decode cX0_add 22 = .ok (.iload_n 3, 1) := by decide +kernel
theorem dX0_add_23 : decode cX0_add 23 = .ok (.ireturn, 1) := by decide +kernel
theorem dX0_put_0 : decode cX0_put 0 = .ok (.aload_n 0, 1) := by decide +kernel
theorem dX0_put_1 : decode cX0_put 1 = .ok (.getfield 9, 3) := by decide +kernel
theorem dX0_put_4 : decode cX0_put 4 = .ok (.iload_n 1, 1) := by decide +kernel
theorem dX0_put_5 : decode cX0_put 5 = .ok (.iload_n 2, 1) := by decide +kernel
theorem dX0_put_6 : decode cX0_put 6 = .ok (.iastore, 1) := by decide +kernel
theorem dX0_put_7 : decode cX0_put 7 = .ok (.aload_n 0, 1) := by decide +kernel
theorem dX0_put_8 : decode cX0_put 8 = .ok (.getfield 15, 3) := by decide +kernel
theorem dX0_put_11 : decode cX0_put 11 = .ok (.iload_n 1, 1) := by decide +kernel
theorem dX0_put_12 : decode cX0_put 12 = .ok (.iload_n 3, 1) := by decide +kernel
theorem dX0_put_13 : decode cX0_put 13 = .ok (.iastore, 1) := by decide +kernel
theorem dX0_put_14 : decode cX0_put 14 = .ok (.return_, 1) := by decide +kernel
theorem dX0_turnAt_0 : decode cX0_turnAt 0 = .ok (.aload_n 0, 1) := by decide +kernel
theorem dX0_turnAt_1 : decode cX0_turnAt 1 = .ok (.getfield 9, 3) := by decide +kernel
theorem dX0_turnAt_4 : decode cX0_turnAt 4 = .ok (.iload_n 2, 1) := by decide +kernel
theorem dX0_turnAt_5 : decode cX0_turnAt 5 = .ok (.iaload, 1) := by decide +kernel
theorem dX0_turnAt_6 : decode cX0_turnAt 6 = .ok (.aload_n 0, 1) := by decide +kernel
theorem dX0_turnAt_7 : decode cX0_turnAt 7 = .ok (.getfield 9, 3) := by decide +kernel
theorem dX0_turnAt_10 : decode cX0_turnAt 10 = .ok (.iload_n 1, 1) := by decide +kernel
theorem dX0_turnAt_11 : decode cX0_turnAt 11 = .ok (.iaload, 1) := by decide +kernel
theorem dX0_turnAt_12 : decode cX0_turnAt 12 = .ok (.isub, 1) := by decide +kernel
theorem dX0_turnAt_13 : decode cX0_turnAt 13 = .ok (.iload 4, 2) := by decide +kernel
theorem dX0_turnAt_15 : decode cX0_turnAt 15 = .ok (.aload_n 0, 1) := by decide +kernel
theorem dX0_turnAt_16 : decode cX0_turnAt 16 = .ok (.getfield 15, 3) := by decide +kernel
theorem dX0_turnAt_19 : decode cX0_turnAt 19 = .ok (.iload_n 1, 1) := by decide +kernel
theorem dX0_turnAt_20 : decode cX0_turnAt 20 = .ok (.iaload, 1) := by decide +kernel
theorem dX0_turnAt_21 : decode cX0_turnAt 21 = .ok (.isub, 1) := by decide +kernel
theorem dX0_turnAt_22 : decode cX0_turnAt 22 = .ok (.imul, 1) := by decide +kernel
theorem dX0_turnAt_23 : decode cX0_turnAt 23 = .ok (.aload_n 0, 1) := by decide +kernel
theorem dX0_turnAt_24 : decode cX0_turnAt 24 = .ok (.getfield 15, 3) := by decide +kernel
theorem dX0_turnAt_27 : decode cX0_turnAt 27 = .ok (.iload_n 2, 1) := by decide +kernel
theorem dX0_turnAt_28 : decode cX0_turnAt 28 = .ok (.iaload, 1) := by decide +kernel
theorem dX0_turnAt_29 : decode cX0_turnAt 29 = .ok (.aload_n 0, 1) := by decide +kernel
theorem dX0_turnAt_30 : decode cX0_turnAt 30 = .ok (.getfield 15, 3) := by decide +kernel
theorem dX0_turnAt_33 : decode cX0_turnAt 33 = .ok (.iload_n 1, 1) := by decide +kernel
theorem dX0_turnAt_34 : decode cX0_turnAt 34 = .ok (.iaload, 1) := by decide +kernel
theorem dX0_turnAt_35 : decode cX0_turnAt 35 = .ok (.isub, 1) := by decide +kernel
theorem dX0_turnAt_36 : decode cX0_turnAt 36 = .ok (.iload_n 3, 1) := by decide +kernel
theorem dX0_turnAt_37 : decode cX0_turnAt 37 = .ok (.aload_n 0, 1) := by decide +kernel
theorem dX0_turnAt_38 : decode cX0_turnAt 38 = .ok (.getfield 9, 3) := by decide +kernel
theorem dX0_turnAt_41 : decode cX0_turnAt 41 = .ok (.iload_n 1, 1) := by decide +kernel
theorem dX0_turnAt_42 : decode cX0_turnAt 42 = .ok (.iaload, 1) := by decide +kernel
theorem dX0_turnAt_43 : decode cX0_turnAt 43 = .ok (.isub, 1) := by decide +kernel
theorem dX0_turnAt_44 : decode cX0_turnAt 44 = .ok (.imul, 1) := by decide +kernel
theorem dX0_turnAt_45 : decode cX0_turnAt 45 = .ok (.isub, 1) := by decide +kernel
theorem dX0_turnAt_46 : decode cX0_turnAt 46 = .ok (.ireturn, 1) := by decide +kernel
set_option maxRecDepth 20000 in
theorem ggX0_turnOf_X0_turnAt : GoodIn wsX0_turnOf wsX0_turnAt := goodIn_r _ [7, 1, 2, 8, 9, 10] (by decide +kernel) (by decide +kernel)
set_option maxRecDepth 20000 in
theorem gX0_turnOf_X0_turnAt : GoodIn wsX0_turnOf (wsV RX0 30 RX0 yX0_turnAt wsX0_turnAt) := goodIn_app (goodIn_of _ (by decide +kernel)) ggX0_turnOf_X0_turnAt
theorem dX0_turnOf_0 : decode cX0_turnOf 0 = .ok (.aload_n 0, 1) := by decide +kernel
theorem dX0_turnOf_1 : decode cX0_turnOf 1 = .ok (.iload_n 1, 1) := by decide +kernel
theorem dX0_turnOf_2 : decode cX0_turnOf 2 = .ok (.iload_n 2, 1) := by decide +kernel
theorem dX0_turnOf_3 : decode cX0_turnOf 3 = .ok (.aload_n 0, 1) := by decide +kernel
theorem dX0_turnOf_4 : decode cX0_turnOf 4 = .ok (.getfield 9, 3) := by decide +kernel
theorem dX0_turnOf_7 : decode cX0_turnOf 7 = .ok (.iload_n 3, 1) := by decide +kernel
theorem dX0_turnOf_8 : decode cX0_turnOf 8 = .ok (.iaload, 1) := by decide +kernel
theorem dX0_turnOf_9 : decode cX0_turnOf 9 = .ok (.aload_n 0, 1) := by decide +kernel
theorem dX0_turnOf_10 : decode cX0_turnOf 10 = .ok (.getfield 15, 3) := by decide +kernel
theorem dX0_turnOf_13 : decode cX0_turnOf 13 = .ok (.iload_n 3, 1) := by decide +kernel
theorem dX0_turnOf_14 : decode cX0_turnOf 14 = .ok (.iaload, 1) := by decide +kernel
theorem dX0_turnOf_15 : decode cX0_turnOf 15 = .ok (.invokevirtual 30, 3) := by decide +kernel
theorem dX0_turnOf_18 : decode cX0_turnOf 18 = .ok (.ireturn, 1) := by decide +kernel
set_option maxRecDepth 20000 in
theorem ggX0_isCrossing_X0_turnOf : GoodIn wsX0_isCrossing wsX0_turnOf := goodIn_r _ [5, 6, 7, 8, 9, 10, 4, 11, 15, 16, 17] (by decide +kernel) (by decide +kernel)
set_option maxRecDepth 20000 in
theorem gX0_isCrossing_X0_turnOf : GoodIn wsX0_isCrossing (wsV RX0 34 RX0 yX0_turnOf wsX0_turnOf) := goodIn_app (goodIn_of _ (by decide +kernel)) ggX0_isCrossing_X0_turnOf
set_option maxRecDepth 20000 in
theorem ggX0_isCrossing_X0_areOpposite : GoodIn wsX0_isCrossing wsX0_areOpposite := goodIn_r _ [14] (by decide +kernel) (by decide +kernel)
set_option maxRecDepth 20000 in
theorem gX0_isCrossing_X0_areOpposite : GoodIn wsX0_isCrossing (va_wsS RX0 38 yX0_areOpposite wsX0_areOpposite) := goodIn_app (goodIn_of _ (by decide +kernel)) ggX0_isCrossing_X0_areOpposite
theorem dX0_isCrossing_0 : decode cX0_isCrossing 0 = .ok (.aload_n 0, 1) := by decide +kernel
theorem dX0_isCrossing_1 : decode cX0_isCrossing 1 = .ok (.iload_n 1, 1) := by decide +kernel
theorem dX0_isCrossing_2 : decode cX0_isCrossing 2 = .ok (.iload_n 2, 1) := by decide +kernel
theorem dX0_isCrossing_3 : decode cX0_isCrossing 3 = .ok (.iload_n 3, 1) := by decide +kernel
theorem dX0_isCrossing_4 : decode cX0_isCrossing 4 = .ok (.invokevirtual 34, 3) := by decide +kernel
theorem dX0_isCrossing_7 : decode cX0_isCrossing 7 = .ok (.aload_n 0, 1) := by decide +kernel
theorem dX0_isCrossing_8 : decode cX0_isCrossing 8 = .ok (.iload_n 1, 1) := by decide +kernel
theorem dX0_isCrossing_9 : decode cX0_isCrossing 9 = .ok (.iload_n 2, 1) := by decide +kernel
theorem dX0_isCrossing_10 : decode cX0_isCrossing 10 = .ok (.iload 4, 2) := by decide +kernel
theorem dX0_isCrossing_12 : decode cX0_isCrossing 12 = .ok (.invokevirtual 34, 3) := by decide +kernel
theorem dX0_isCrossing_15 : decode cX0_isCrossing 15 = .ok (.invokestatic 38, 3) := by decide +kernel
theorem dX0_isCrossing_18 : decode cX0_isCrossing 18 = .ok (.ifCond .eq 29, 3) := by decide +kernel
theorem dX0_isCrossing_21 : decode cX0_isCrossing 21 = .ok (.aload_n 0, 1) := by decide +kernel
theorem dX0_isCrossing_22 : decode cX0_isCrossing 22 = .ok (.iload_n 3, 1) := by decide +kernel
theorem dX0_isCrossing_23 : decode cX0_isCrossing 23 = .ok (.iload 4, 2) := by decide +kernel
theorem dX0_isCrossing_25 : decode cX0_isCrossing 25 = .ok (.iload_n 1, 1) := by decide +kernel
theorem dX0_isCrossing_26 : decode cX0_isCrossing 26 = .ok (.invokevirtual 34, 3) := by decide +kernel
theorem dX0_isCrossing_29 : decode cX0_isCrossing 29 = .ok (.aload_n 0, 1) := by decide +kernel
theorem dX0_isCrossing_30 : decode cX0_isCrossing 30 = .ok (.iload_n 3, 1) := by decide +kernel
theorem dX0_isCrossing_31 : decode cX0_isCrossing 31 = .ok (.iload 4, 2) := by decide +kernel
theorem dX0_isCrossing_33 : decode cX0_isCrossing 33 = .ok (.iload_n 2, 1) := by decide +kernel
theorem dX0_isCrossing_34 : decode cX0_isCrossing 34 = .ok (.invokevirtual 34, 3) := by decide +kernel
theorem dX0_isCrossing_37 : decode cX0_isCrossing 37 = .ok (.invokestatic 38, 3) := by decide +kernel
theorem dX0_isCrossing_40 : decode cX0_isCrossing 40 = .ok (.ifCond .eq 7, 3) := by decide +kernel
theorem dX0_isCrossing_43 : decode cX0_isCrossing 43 = .ok (.iconst 1, 1) := by decide +kernel
theorem dX0_isCrossing_44 : decode cX0_isCrossing 44 = .ok (.goto 4, 3) := by decide +kernel
theorem dX0_isCrossing_47 : decode cX0_isCrossing 47 = .ok (.iconst 0, 1) := by decide +kernel
theorem dX0_isCrossing_48 : decode cX0_isCrossing 48 = .ok (.ireturn, 1) := by decide +kernel
theorem dX0_areOpposite_0 : decode cX0_areOpposite 0 = .ok (.iload_n 0, 1) := by decide +kernel
theorem dX0_areOpposite_1 : decode cX0_areOpposite 1 = .ok (.ifCond .ge 7, 3) := by decide +kernel
theorem dX0_areOpposite_4 : decode cX0_areOpposite 4 = .ok (.iload_n 1, 1) := by decide +kernel
theorem dX0_areOpposite_5 : decode cX0_areOpposite 5 = .ok (.ifCond .gt 11, 3) := by decide +kernel
theorem dX0_areOpposite_8 : decode cX0_areOpposite 8 = .ok (.iload_n 0, 1) := by decide +kernel
theorem dX0_areOpposite_9 : decode cX0_areOpposite 9 = .ok (.ifCond .le 11, 3) := by decide +kernel
theorem dX0_areOpposite_12 : decode cX0_areOpposite 12 = .ok (.iload_n 1, 1) := by decide +kernel
theorem dX0_areOpposite_13 : decode cX0_areOpposite 13 = .ok (.ifCond .ge 7, 3) := by decide +kernel
theorem dX0_areOpposite_16 : decode cX0_areOpposite 16 = .ok (.iconst 1, 1) := by decide +kernel
theorem dX0_areOpposite_17 : decode cX0_areOpposite 17 = .ok (.goto 4, 3) := by decide +kernel
theorem dX0_areOpposite_20 : decode cX0_areOpposite 20 = .ok (.iconst 0, 1) := by decide +kernel
theorem dX0_areOpposite_21 : decode cX0_areOpposite 21 = .ok (.ireturn, 1) := by decide +kernel
theorem dX0_circleSide_0 : decode cX0_circleSide 0 = .ok (.aload_n 0, 1) := by decide +kernel
theorem dX0_circleSide_1 : decode cX0_circleSide 1 = .ok (.getfield 9, 3) := by decide +kernel
theorem dX0_circleSide_4 : decode cX0_circleSide 4 = .ok (.iload_n 1, 1) := by decide +kernel
theorem dX0_circleSide_5 : decode cX0_circleSide 5 = .ok (.iaload, 1) := by decide +kernel
theorem dX0_circleSide_6 : decode cX0_circleSide 6 = .ok (.aload_n 0, 1) := by decide +kernel
theorem dX0_circleSide_7 : decode cX0_circleSide 7 = .ok (.getfield 9, 3) := by decide +kernel
theorem dX0_circleSide_10 : decode cX0_circleSide 10 = .ok (.iload 4, 2) := by decide +kernel
theorem dX0_circleSide_12 : decode cX0_circleSide 12 = .ok (.iaload, 1) := by decide +kernel
theorem dX0_circleSide_13 : decode cX0_circleSide 13 = .ok (.isub, 1) := by decide +kernel
theorem dX0_circleSide_14 : decode cX0_circleSide 14 = .ok (.i2l, 1) := by decide +kernel
theorem dX0_circleSide_15 : decode cX0_circleSide 15 = .ok (.lstore 5, 2) := by decide +kernel
theorem dX0_circleSide_17 : decode cX0_circleSide 17 = .ok (.aload_n 0, 1) := by decide +kernel
theorem dX0_circleSide_18 : decode cX0_circleSide 18 = .ok (.getfield 15, 3) := by decide +kernel
theorem dX0_circleSide_21 : decode cX0_circleSide 21 = .ok (.iload_n 1, 1) := by decide +kernel
theorem dX0_circleSide_22 : decode cX0_circleSide 22 = .ok (.iaload, 1) := by decide +kernel
theorem dX0_circleSide_23 : decode cX0_circleSide 23 = .ok (.aload_n 0, 1) := by decide +kernel
theorem dX0_circleSide_24 : decode cX0_circleSide 24 = .ok (.getfield 15, 3) := by decide +kernel
theorem dX0_circleSide_27 : decode cX0_circleSide 27 = .ok (.iload 4, 2) := by decide +kernel
theorem dX0_circleSide_29 : decode cX0_circleSide 29 = .ok (.iaload, 1) := by decide +kernel
theorem dX0_circleSide_30 : decode cX0_circleSide 30 = .ok (.isub, 1) := by decide +kernel
theorem dX0_circleSide_31 : decode cX0_circleSide 31 = .ok (.i2l, 1) := by decide +kernel
theorem dX0_circleSide_32 : decode cX0_circleSide 32 = .ok (.lstore 7, 2) := by decide +kernel
theorem dX0_circleSide_34 : decode cX0_circleSide 34 = .ok (.aload_n 0, 1) := by decide +kernel
theorem dX0_circleSide_35 : decode cX0_circleSide 35 = .ok (.getfield 9, 3) := by decide +kernel
theorem dX0_circleSide_38 : decode cX0_circleSide 38 = .ok (.iload_n 2, 1) := by decide +kernel
theorem dX0_circleSide_39 : decode cX0_circleSide 39 = .ok (.iaload, 1) := by decide +kernel
theorem dX0_circleSide_40 : decode cX0_circleSide 40 = .ok (.aload_n 0, 1) := by decide +kernel
theorem dX0_circleSide_41 : decode cX0_circleSide 41 = .ok (.getfield 9, 3) := by decide +kernel
theorem dX0_circleSide_44 : decode cX0_circleSide 44 = .ok (.iload 4, 2) := by decide +kernel
theorem dX0_circleSide_46 : decode cX0_circleSide 46 = .ok (.iaload, 1) := by decide +kernel
theorem dX0_circleSide_47 : decode cX0_circleSide 47 = .ok (.isub, 1) := by decide +kernel
theorem dX0_circleSide_48 : decode cX0_circleSide 48 = .ok (.i2l, 1) := by decide +kernel
theorem dX0_circleSide_49 : decode cX0_circleSide 49 = .ok (.lstore 9, 2) := by decide +kernel
theorem dX0_circleSide_51 : decode cX0_circleSide 51 = .ok (.aload_n 0, 1) := by decide +kernel
theorem dX0_circleSide_52 : decode cX0_circleSide 52 = .ok (.getfield 15, 3) := by decide +kernel
theorem dX0_circleSide_55 : decode cX0_circleSide 55 = .ok (.iload_n 2, 1) := by decide +kernel
theorem dX0_circleSide_56 : decode cX0_circleSide 56 = .ok (.iaload, 1) := by decide +kernel
theorem dX0_circleSide_57 : decode cX0_circleSide 57 = .ok (.aload_n 0, 1) := by decide +kernel
theorem dX0_circleSide_58 : decode cX0_circleSide 58 = .ok (.getfield 15, 3) := by decide +kernel
theorem dX0_circleSide_61 : decode cX0_circleSide 61 = .ok (.iload 4, 2) := by decide +kernel
theorem dX0_circleSide_63 : decode cX0_circleSide 63 = .ok (.iaload, 1) := by decide +kernel
theorem dX0_circleSide_64 : decode cX0_circleSide 64 = .ok (.isub, 1) := by decide +kernel
theorem dX0_circleSide_65 : decode cX0_circleSide 65 = .ok (.i2l, 1) := by decide +kernel
theorem dX0_circleSide_66 : decode cX0_circleSide 66 = .ok (.lstore 11, 2) := by decide +kernel
theorem dX0_circleSide_68 : decode cX0_circleSide 68 = .ok (.aload_n 0, 1) := by decide +kernel
theorem dX0_circleSide_69 : decode cX0_circleSide 69 = .ok (.getfield 9, 3) := by decide +kernel
theorem dX0_circleSide_72 : decode cX0_circleSide 72 = .ok (.iload_n 3, 1) := by decide +kernel
theorem dX0_circleSide_73 : decode cX0_circleSide 73 = .ok (.iaload, 1) := by decide +kernel
theorem dX0_circleSide_74 : decode cX0_circleSide 74 = .ok (.aload_n 0, 1) := by decide +kernel
theorem dX0_circleSide_75 : decode cX0_circleSide 75 = .ok (.getfield 9, 3) := by decide +kernel
theorem dX0_circleSide_78 : decode cX0_circleSide 78 = .ok (.iload 4, 2) := by decide +kernel
theorem dX0_circleSide_80 : decode cX0_circleSide 80 = .ok (.iaload, 1) := by decide +kernel
theorem dX0_circleSide_81 : decode cX0_circleSide 81 = .ok (.isub, 1) := by decide +kernel
theorem dX0_circleSide_82 : decode cX0_circleSide 82 = .ok (.i2l, 1) := by decide +kernel
theorem dX0_circleSide_83 : decode cX0_circleSide 83 = .ok (.lstore 13, 2) := by decide +kernel
theorem dX0_circleSide_85 : decode cX0_circleSide 85 = .ok (.aload_n 0, 1) := by decide +kernel
theorem dX0_circleSide_86 : decode cX0_circleSide 86 = .ok (.getfield 15, 3) := by decide +kernel
theorem dX0_circleSide_89 : decode cX0_circleSide 89 = .ok (.iload_n 3, 1) := by decide +kernel
theorem dX0_circleSide_90 : decode cX0_circleSide 90 = .ok (.iaload, 1) := by decide +kernel
theorem dX0_circleSide_91 : decode cX0_circleSide 91 = .ok (.aload_n 0, 1) := by decide +kernel
theorem dX0_circleSide_92 : decode cX0_circleSide 92 = .ok (.getfield 15, 3) := by decide +kernel
theorem dX0_circleSide_95 : decode cX0_circleSide 95 = .ok (.iload 4, 2) := by decide +kernel
theorem dX0_circleSide_97 : decode cX0_circleSide 97 = .ok (.iaload, 1) := by decide +kernel
theorem dX0_circleSide_98 : decode cX0_circleSide 98 = .ok (.isub, 1) := by decide +kernel
theorem dX0_circleSide_99 : decode cX0_circleSide 99 = .ok (.i2l, 1) := by decide +kernel
theorem dX0_circleSide_100 : decode cX0_circleSide 100 = .ok (.lstore 15, 2) := by decide +kernel
theorem dX0_circleSide_102 : decode cX0_circleSide 102 = .ok (.lload 5, 2) := by decide +kernel
theorem dX0_circleSide_104 : decode cX0_circleSide 104 = .ok (.lload 5, 2) := by decide +kernel
theorem dX0_circleSide_106 : decode cX0_circleSide 106 = .ok (.lmul, 1) := by decide +kernel
theorem dX0_circleSide_107 : decode cX0_circleSide 107 = .ok (.lload 7, 2) := by decide +kernel
theorem dX0_circleSide_109 : decode cX0_circleSide 109 = .ok (.lload 7, 2) := by decide +kernel
theorem dX0_circleSide_111 : decode cX0_circleSide 111 = .ok (.lmul, 1) := by decide +kernel
theorem dX0_circleSide_112 : decode cX0_circleSide 112 = .ok (.ladd, 1) := by decide +kernel
theorem dX0_circleSide_113 : decode cX0_circleSide 113 = .ok (.lload 9, 2) := by decide +kernel
theorem dX0_circleSide_115 : decode cX0_circleSide 115 = .ok (.lload 15, 2) := by decide +kernel
theorem dX0_circleSide_117 : decode cX0_circleSide 117 = .ok (.lmul, 1) := by decide +kernel
theorem dX0_circleSide_118 : decode cX0_circleSide 118 = .ok (.lload 11, 2) := by decide +kernel
theorem dX0_circleSide_120 : decode cX0_circleSide 120 = .ok (.lload 13, 2) := by decide +kernel
theorem dX0_circleSide_122 : decode cX0_circleSide 122 = .ok (.lmul, 1) := by decide +kernel
theorem dX0_circleSide_123 : decode cX0_circleSide 123 = .ok (.lsub, 1) := by decide +kernel
theorem dX0_circleSide_124 : decode cX0_circleSide 124 = .ok (.lmul, 1) := by decide +kernel
theorem dX0_circleSide_125 : decode cX0_circleSide 125 = .ok (.lload 9, 2) := by decide +kernel
theorem dX0_circleSide_127 : decode cX0_circleSide 127 = .ok (.lload 9, 2) := by decide +kernel
theorem dX0_circleSide_129 : decode cX0_circleSide 129 = .ok (.lmul, 1) := by decide +kernel
theorem dX0_circleSide_130 : decode cX0_circleSide 130 = .ok (.lload 11, 2) := by decide +kernel
theorem dX0_circleSide_132 : decode cX0_circleSide 132 = .ok (.lload 11, 2) := by decide +kernel
theorem dX0_circleSide_134 : decode cX0_circleSide 134 = .ok (.lmul, 1) := by decide +kernel
theorem dX0_circleSide_135 : decode cX0_circleSide 135 = .ok (.ladd, 1) := by decide +kernel
theorem dX0_circleSide_136 : decode cX0_circleSide 136 = .ok (.lload 13, 2) := by decide +kernel
theorem dX0_circleSide_138 : decode cX0_circleSide 138 = .ok (.lload 7, 2) := by decide +kernel
theorem dX0_circleSide_140 : decode cX0_circleSide 140 = .ok (.lmul, 1) := by decide +kernel
theorem dX0_circleSide_141 : decode cX0_circleSide 141 = .ok (.lload 15, 2) := by decide +kernel
theorem dX0_circleSide_143 : decode cX0_circleSide 143 = .ok (.lload 5, 2) := by decide +kernel
theorem dX0_circleSide_145 : decode cX0_circleSide 145 = .ok (.lmul, 1) := by decide +kernel
theorem dX0_circleSide_146 : decode cX0_circleSide 146 = .ok (.lsub, 1) := by decide +kernel
theorem dX0_circleSide_147 : decode cX0_circleSide 147 = .ok (.lmul, 1) := by decide +kernel
theorem dX0_circleSide_148 : decode cX0_circleSide 148 = .ok (.ladd, 1) := by decide +kernel
theorem dX0_circleSide_149 : decode cX0_circleSide 149 = .ok (.lload 13, 2) := by decide +kernel
theorem dX0_circleSide_151 : decode cX0_circleSide 151 = .ok (.lload 13, 2) := by decide +kernel
theorem dX0_circleSide_153 : decode cX0_circleSide 153 = .ok (.lmul, 1) := by decide +kernel
theorem dX0_circleSide_154 : decode cX0_circleSide 154 = .ok (.lload 15, 2) := by decide +kernel
theorem dX0_circleSide_156 : decode cX0_circleSide 156 = .ok (.lload 15, 2) := by decide +kernel
theorem dX0_circleSide_158 : decode cX0_circleSide 158 = .ok (.lmul, 1) := by decide +kernel
theorem dX0_circleSide_159 : decode cX0_circleSide 159 = .ok (.ladd, 1) := by decide +kernel
theorem dX0_circleSide_160 : decode cX0_circleSide 160 = .ok (.lload 5, 2) := by decide +kernel
theorem dX0_circleSide_162 : decode cX0_circleSide 162 = .ok (.lload 11, 2) := by decide +kernel
theorem dX0_circleSide_164 : decode cX0_circleSide 164 = .ok (.lmul, 1) := by decide +kernel
theorem dX0_circleSide_165 : decode cX0_circleSide 165 = .ok (.lload 7, 2) := by decide +kernel
theorem dX0_circleSide_167 : decode cX0_circleSide 167 = .ok (.lload 9, 2) := by decide +kernel
theorem dX0_circleSide_169 : decode cX0_circleSide 169 = .ok (.lmul, 1) := by decide +kernel
theorem dX0_circleSide_170 : decode cX0_circleSide 170 = .ok (.lsub, 1) := by decide +kernel
theorem dX0_circleSide_171 : decode cX0_circleSide 171 = .ok (.lmul, 1) := by decide +kernel
theorem dX0_circleSide_172 : decode cX0_circleSide 172 = .ok (.ladd, 1) := by decide +kernel
theorem dX0_circleSide_173 : decode cX0_circleSide 173 = .ok (.lreturn, 1) := by decide +kernel
theorem dX1_init_0 : decode cX1_init 0 = .ok (.aload_n 0, 1) := by decide +kernel
theorem dX1_init_1 : decode cX1_init 1 = .ok (.invokespecial 3, 3) := by decide +kernel
theorem dX1_init_4 : decode cX1_init 4 = .ok (.aload_n 0, 1) := by decide +kernel
theorem dX1_init_5 : decode cX1_init 5 = .ok (.sipush 600, 3) := by decide +kernel
theorem dX1_init_8 : decode cX1_init 8 = .ok (.newarray .int, 2) := by decide +kernel
theorem dX1_init_10 : decode cX1_init 10 = .ok (.putfield 9, 3) := by decide +kernel
theorem dX1_init_13 : decode cX1_init 13 = .ok (.aload_n 0, 1) := by decide +kernel
theorem dX1_init_14 : decode cX1_init 14 = .ok (.bipush 60, 2) := by decide +kernel
theorem dX1_init_16 : decode cX1_init 16 = .ok (.newarray .int, 2) := by decide +kernel
theorem dX1_init_18 : decode cX1_init 18 = .ok (.putfield 15, 3) := by decide +kernel
theorem dX1_init_21 : decode cX1_init 21 = .ok (.aload_n 0, 1) := by decide +kernel
theorem dX1_init_22 : decode cX1_init 22 = .ok (.iconst 0, 1) := by decide +kernel
theorem dX1_init_23 : decode cX1_init 23 = .ok (.putfield 18, 3) := by decide +kernel
theorem dX1_init_26 : decode cX1_init 26 = .ok (.aload_n 0, 1) := by decide +kernel
theorem dX1_init_27 : decode cX1_init 27 = .ok (.iconst 0, 1) := by decide +kernel
theorem dX1_init_28 : decode cX1_init 28 = .ok (.putfield 22, 3) := by decide +kernel
theorem dX1_init_31 : decode cX1_init 31 = .ok (.return_, 1) := by decide +kernel
theorem dX1_came_0 : decode cX1_came 0 = .ok (.aload_n 0, 1) := by decide +kernel
theorem dX1_came_1 : decode cX1_came 1 = .ok (.getfield 22, 3) := by decide +kernel
theorem dX1_came_4 : decode cX1_came 4 = .ok (.ireturn, 1) := by decide +kernel
theorem dX1_thereCount_0 : decode cX1_thereCount 0 = .ok (.aload_n 0, 1) := by decide +kernel
theorem dX1_thereCount_1 : decode cX1_thereCount 1 = .ok (.getfield 18, 3) := by decide +kernel
theorem dX1_thereCount_4 : decode cX1_thereCount 4 = .ok (.ireturn, 1) := by decide +kernel
theorem dX1_numberAt_0 : decode cX1_numberAt 0 = .ok (.aload_n 0, 1) := by decide +kernel
theorem dX1_numberAt_1 : decode cX1_numberAt 1 = .ok (.getfield 15, 3) := by decide +kernel
theorem dX1_numberAt_4 : decode cX1_numberAt 4 = .ok (.iload_n 1, 1) := by decide +kernel
theorem dX1_numberAt_5 : decode cX1_numberAt 5 = .ok (.iaload, 1) := by decide +kernel
theorem dX1_numberAt_6 : decode cX1_numberAt 6 = .ok (.ireturn, 1) := by decide +kernel
theorem dX1_isThere_0 : decode cX1_isThere 0 = .ok (.iconst 0, 1) := by decide +kernel
theorem dX1_isThere_1 : decode cX1_isThere 1 = .ok (.istore_n 2, 1) := by decide +kernel
theorem dX1_isThere_2 : decode cX1_isThere 2 = .ok (.iload_n 2, 1) := by decide +kernel
theorem dX1_isThere_3 : decode cX1_isThere 3 = .ok (.aload_n 0, 1) := by decide +kernel
theorem dX1_isThere_4 : decode cX1_isThere 4 = .ok (.getfield 18, 3) := by decide +kernel
theorem dX1_isThere_7 : decode cX1_isThere 7 = .ok (.if_icmp .ge 21, 3) := by decide +kernel
theorem dX1_isThere_10 : decode cX1_isThere 10 = .ok (.aload_n 0, 1) := by decide +kernel
theorem dX1_isThere_11 : decode cX1_isThere 11 = .ok (.getfield 15, 3) := by decide +kernel
theorem dX1_isThere_14 : decode cX1_isThere 14 = .ok (.iload_n 2, 1) := by decide +kernel
theorem dX1_isThere_15 : decode cX1_isThere 15 = .ok (.iaload, 1) := by decide +kernel
theorem dX1_isThere_16 : decode cX1_isThere 16 = .ok (.iload_n 1, 1) := by decide +kernel
theorem dX1_isThere_17 : decode cX1_isThere 17 = .ok (.if_icmp .ne 5, 3) := by decide +kernel
theorem dX1_isThere_20 : decode cX1_isThere 20 = .ok (.iconst 1, 1) := by decide +kernel
theorem dX1_isThere_21 : decode cX1_isThere 21 = .ok (.ireturn, 1) := by decide +kernel
theorem dX1_isThere_22 : decode cX1_isThere 22 = .ok (.iinc 2 1, 3) := by decide +kernel
theorem dX1_isThere_25 : decode cX1_isThere 25 = .ok (.goto (-23), 3) := by decide +kernel
theorem dX1_isThere_28 : decode cX1_isThere 28 = .ok (.iconst 0, 1) := by decide +kernel
theorem dX1_isThere_29 : decode cX1_isThere 29 = .ok (.ireturn, 1) := by decide +kernel
theorem dX1_canAdd_0 : decode cX1_canAdd 0 = .ok (.aload_n 0, 1) := by decide +kernel
theorem dX1_canAdd_1 : decode cX1_canAdd 1 = .ok (.getfield 18, 3) := by decide +kernel
theorem dX1_canAdd_4 : decode cX1_canAdd 4 = .ok (.iload_n 1, 1) := by decide +kernel
theorem dX1_canAdd_5 : decode cX1_canAdd 5 = .ok (.iadd, 1) := by decide +kernel
theorem dX1_canAdd_6 : decode cX1_canAdd 6 = .ok (.bipush 60, 2) := by decide +kernel
theorem dX1_canAdd_8 : decode cX1_canAdd 8 = .ok (.if_icmp .gt 19, 3) := by decide +kernel
theorem dX1_canAdd_11 : decode cX1_canAdd 11 = .ok (.aload_n 0, 1) := by decide +kernel
theorem dX1_canAdd_12 : decode cX1_canAdd 12 = .ok (.getfield 22, 3) := by decide +kernel
theorem dX1_canAdd_15 : decode cX1_canAdd 15 = .ok (.iload_n 1, 1) := by decide +kernel
theorem dX1_canAdd_16 : decode cX1_canAdd 16 = .ok (.iadd, 1) := by decide +kernel
theorem dX1_canAdd_17 : decode cX1_canAdd 17 = .ok (.sipush 200, 3) := by decide +kernel
theorem dX1_canAdd_20 : decode cX1_canAdd 20 = .ok (.if_icmp .gt 7, 3) := by decide +kernel
theorem dX1_canAdd_23 : decode cX1_canAdd 23 = .ok (.iconst 1, 1) := by decide +kernel
theorem dX1_canAdd_24 : decode cX1_canAdd 24 = .ok (.goto 4, 3) := by decide +kernel
theorem dX1_canAdd_27 : decode cX1_canAdd 27 = .ok (.iconst 0, 1) := by decide +kernel
theorem dX1_canAdd_28 : decode cX1_canAdd 28 = .ok (.ireturn, 1) := by decide +kernel
set_option maxRecDepth 20000 in
theorem ggX1_add_X1_put : GoodIn wsX1_add wsX1_put := goodIn_r _ [8, 9, 10, 11, 12, 13] (by decide +kernel) (by decide +kernel)
set_option maxRecDepth 20000 in
theorem gX1_add_X1_put : GoodIn wsX1_add (wsV RX1 25 RX1 yX1_put wsX1_put) := goodIn_app (goodIn_of _ (by decide +kernel)) ggX1_add_X1_put
theorem dX1_add_0 : decode cX1_add 0 = .ok (.aload_n 0, 1) := by decide +kernel
theorem dX1_add_1 : decode cX1_add 1 = .ok (.getfield 22, 3) := by decide +kernel
theorem dX1_add_4 : decode cX1_add 4 = .ok (.istore 4, 2) := by decide +kernel
theorem dX1_add_6 : decode cX1_add 6 = .ok (.aload_n 0, 1) := by decide +kernel
theorem dX1_add_7 : decode cX1_add 7 = .ok (.dup, 1) := by decide +kernel
theorem dX1_add_8 : decode cX1_add 8 = .ok (.getfield 22, 3) := by decide +kernel
theorem dX1_add_11 : decode cX1_add 11 = .ok (.iconst 1, 1) := by decide +kernel
theorem dX1_add_12 : decode cX1_add 12 = .ok (.iadd, 1) := by decide +kernel
theorem dX1_add_13 : decode cX1_add 13 = .ok (.putfield 22, 3) := by decide +kernel
theorem dX1_add_16 : decode cX1_add 16 = .ok (.aload_n 0, 1) := by decide +kernel
theorem dX1_add_17 : decode cX1_add 17 = .ok (.iload 4, 2) := by decide +kernel
theorem dX1_add_19 : decode cX1_add 19 = .ok (.iload_n 1, 1) := by decide +kernel
theorem dX1_add_20 : decode cX1_add 20 = .ok (.iload_n 2, 1) := by decide +kernel
theorem dX1_add_21 : decode cX1_add 21 = .ok (.iload_n 3, 1) := by decide +kernel
theorem dX1_add_22 : decode cX1_add 22 = .ok (.invokevirtual 25, 3) := by decide +kernel
theorem dX1_add_25 : decode cX1_add 25 = .ok (.aload_n 0, 1) := by decide +kernel
theorem dX1_add_26 : decode cX1_add 26 = .ok (.getfield 15, 3) := by decide +kernel
theorem dX1_add_29 : decode cX1_add 29 = .ok (.aload_n 0, 1) := by decide +kernel
theorem dX1_add_30 : decode cX1_add 30 = .ok (.getfield 18, 3) := by decide +kernel
theorem dX1_add_33 : decode cX1_add 33 = .ok (.iload 4, 2) := by decide +kernel
theorem dX1_add_35 : decode cX1_add 35 = .ok (.iastore, 1) := by decide +kernel
theorem dX1_add_36 : decode cX1_add 36 = .ok (.aload_n 0, 1) := by decide +kernel
theorem dX1_add_37 : decode cX1_add 37 = .ok (.dup, 1) := by decide +kernel
theorem dX1_add_38 : decode cX1_add 38 = .ok (.getfield 18, 3) := by decide +kernel
theorem dX1_add_41 : decode cX1_add 41 = .ok (.iconst 1, 1) := by decide +kernel
theorem dX1_add_42 : decode cX1_add 42 = .ok (.iadd, 1) := by decide +kernel
theorem dX1_add_43 : decode cX1_add 43 = .ok (.putfield 18, 3) := by decide +kernel
theorem dX1_add_46 : decode cX1_add 46 = .ok (.iload 4, 2) := by decide +kernel
theorem dX1_add_48 : decode cX1_add 48 = .ok (.ireturn, 1) := by decide +kernel
theorem dX1_put_0 : decode cX1_put 0 = .ok (.aload_n 0, 1) := by decide +kernel
theorem dX1_put_1 : decode cX1_put 1 = .ok (.getfield 9, 3) := by decide +kernel
theorem dX1_put_4 : decode cX1_put 4 = .ok (.iconst 3, 1) := by decide +kernel
theorem dX1_put_5 : decode cX1_put 5 = .ok (.iload_n 1, 1) := by decide +kernel
theorem dX1_put_6 : decode cX1_put 6 = .ok (.imul, 1) := by decide +kernel
theorem dX1_put_7 : decode cX1_put 7 = .ok (.iload_n 2, 1) := by decide +kernel
theorem dX1_put_8 : decode cX1_put 8 = .ok (.iastore, 1) := by decide +kernel
theorem dX1_put_9 : decode cX1_put 9 = .ok (.aload_n 0, 1) := by decide +kernel
theorem dX1_put_10 : decode cX1_put 10 = .ok (.getfield 9, 3) := by decide +kernel
theorem dX1_put_13 : decode cX1_put 13 = .ok (.iconst 3, 1) := by decide +kernel
theorem dX1_put_14 : decode cX1_put 14 = .ok (.iload_n 1, 1) := by decide +kernel
theorem dX1_put_15 : decode cX1_put 15 = .ok (.imul, 1) := by decide +kernel
theorem dX1_put_16 : decode cX1_put 16 = .ok (.iconst 1, 1) := by decide +kernel
theorem dX1_put_17 : decode cX1_put 17 = .ok (.iadd, 1) := by decide +kernel
theorem dX1_put_18 : decode cX1_put 18 = .ok (.iload_n 3, 1) := by decide +kernel
theorem dX1_put_19 : decode cX1_put 19 = .ok (.iastore, 1) := by decide +kernel
theorem dX1_put_20 : decode cX1_put 20 = .ok (.aload_n 0, 1) := by decide +kernel
theorem dX1_put_21 : decode cX1_put 21 = .ok (.getfield 9, 3) := by decide +kernel
theorem dX1_put_24 : decode cX1_put 24 = .ok (.iconst 3, 1) := by decide +kernel
theorem dX1_put_25 : decode cX1_put 25 = .ok (.iload_n 1, 1) := by decide +kernel
theorem dX1_put_26 : decode cX1_put 26 = .ok (.imul, 1) := by decide +kernel
theorem dX1_put_27 : decode cX1_put 27 = .ok (.iconst 2, 1) := by decide +kernel
theorem dX1_put_28 : decode cX1_put 28 = .ok (.iadd, 1) := by decide +kernel
theorem dX1_put_29 : decode cX1_put 29 = .ok (.iload 4, 2) := by decide +kernel
theorem dX1_put_31 : decode cX1_put 31 = .ok (.iastore, 1) := by decide +kernel
theorem dX1_put_32 : decode cX1_put 32 = .ok (.return_, 1) := by decide +kernel
theorem dX1_remove_0 : decode cX1_remove 0 = .ok (.iconst 0, 1) := by decide +kernel
theorem dX1_remove_1 : decode cX1_remove 1 = .ok (.istore_n 2, 1) := by decide +kernel
theorem dX1_remove_2 : decode cX1_remove 2 = .ok (.iconst 0, 1) := by decide +kernel
theorem dX1_remove_3 : decode cX1_remove 3 = .ok (.istore_n 3, 1) := by decide +kernel
theorem dX1_remove_4 : decode cX1_remove 4 = .ok (.iload_n 3, 1) := by decide +kernel
theorem dX1_remove_5 : decode cX1_remove 5 = .ok (.aload_n 0, 1) := by decide +kernel
theorem dX1_remove_6 : decode cX1_remove 6 = .ok (.getfield 18, 3) := by decide +kernel
theorem dX1_remove_9 : decode cX1_remove 9 = .ok (.if_icmp .ge 34, 3) := by decide +kernel
theorem dX1_remove_12 : decode cX1_remove 12 = .ok (.aload_n 0, 1) := by decide +kernel
theorem dX1_remove_13 : decode cX1_remove 13 = .ok (.getfield 15, 3) := by decide +kernel
theorem dX1_remove_16 : decode cX1_remove 16 = .ok (.iload_n 3, 1) := by decide +kernel
theorem dX1_remove_17 : decode cX1_remove 17 = .ok (.iaload, 1) := by decide +kernel
theorem dX1_remove_18 : decode cX1_remove 18 = .ok (.iload_n 1, 1) := by decide +kernel
theorem dX1_remove_19 : decode cX1_remove 19 = .ok (.if_icmp .eq 18, 3) := by decide +kernel
theorem dX1_remove_22 : decode cX1_remove 22 = .ok (.aload_n 0, 1) := by decide +kernel
theorem dX1_remove_23 : decode cX1_remove 23 = .ok (.getfield 15, 3) := by decide +kernel
theorem dX1_remove_26 : decode cX1_remove 26 = .ok (.iload_n 2, 1) := by decide +kernel
theorem dX1_remove_27 : decode cX1_remove 27 = .ok (.aload_n 0, 1) := by decide +kernel
theorem dX1_remove_28 : decode cX1_remove 28 = .ok (.getfield 15, 3) := by decide +kernel
theorem dX1_remove_31 : decode cX1_remove 31 = .ok (.iload_n 3, 1) := by decide +kernel
theorem dX1_remove_32 : decode cX1_remove 32 = .ok (.iaload, 1) := by decide +kernel
theorem dX1_remove_33 : decode cX1_remove 33 = .ok (.iastore, 1) := by decide +kernel
theorem dX1_remove_34 : decode cX1_remove 34 = .ok (.iinc 2 1, 3) := by decide +kernel
theorem dX1_remove_37 : decode cX1_remove 37 = .ok (.iinc 3 1, 3) := by decide +kernel
theorem dX1_remove_40 : decode cX1_remove 40 = .ok (.goto (-36), 3) := by decide +kernel
theorem dX1_remove_43 : decode cX1_remove 43 = .ok (.aload_n 0, 1) := by decide +kernel
theorem dX1_remove_44 : decode cX1_remove 44 = .ok (.iload_n 2, 1) := by decide +kernel
theorem dX1_remove_45 : decode cX1_remove 45 = .ok (.putfield 18, 3) := by decide +kernel
theorem dX1_remove_48 : decode cX1_remove 48 = .ok (.return_, 1) := by decide +kernel
theorem dX1_cornerOf_0 : decode cX1_cornerOf 0 = .ok (.aload_n 0, 1) := by decide +kernel
theorem dX1_cornerOf_1 : decode cX1_cornerOf 1 = .ok (.getfield 9, 3) := by decide +kernel
theorem dX1_cornerOf_4 : decode cX1_cornerOf 4 = .ok (.iconst 3, 1) := by decide +kernel
theorem dX1_cornerOf_5 : decode cX1_cornerOf 5 = .ok (.iload_n 1, 1) := by decide +kernel
theorem dX1_cornerOf_6 : decode cX1_cornerOf 6 = .ok (.imul, 1) := by decide +kernel
theorem dX1_cornerOf_7 : decode cX1_cornerOf 7 = .ok (.iload_n 2, 1) := by decide +kernel
theorem dX1_cornerOf_8 : decode cX1_cornerOf 8 = .ok (.iconst 3, 1) := by decide +kernel
theorem dX1_cornerOf_9 : decode cX1_cornerOf 9 = .ok (.irem, 1) := by decide +kernel
theorem dX1_cornerOf_10 : decode cX1_cornerOf 10 = .ok (.iadd, 1) := by decide +kernel
theorem dX1_cornerOf_11 : decode cX1_cornerOf 11 = .ok (.iaload, 1) := by decide +kernel
theorem dX1_cornerOf_12 : decode cX1_cornerOf 12 = .ok (.ireturn, 1) := by decide +kernel
theorem dX1_hasCorner_0 : decode cX1_hasCorner 0 = .ok (.aload_n 0, 1) := by decide +kernel
theorem dX1_hasCorner_1 : decode cX1_hasCorner 1 = .ok (.getfield 9, 3) := by decide +kernel
theorem dX1_hasCorner_4 : decode cX1_hasCorner 4 = .ok (.iconst 3, 1) := by decide +kernel
theorem dX1_hasCorner_5 : decode cX1_hasCorner 5 = .ok (.iload_n 1, 1) := by decide +kernel
theorem dX1_hasCorner_6 : decode cX1_hasCorner 6 = .ok (.imul, 1) := by decide +kernel
theorem dX1_hasCorner_7 : decode cX1_hasCorner 7 = .ok (.iaload, 1) := by decide +kernel
theorem dX1_hasCorner_8 : decode cX1_hasCorner 8 = .ok (.iload_n 2, 1) := by decide +kernel
theorem dX1_hasCorner_9 : decode cX1_hasCorner 9 = .ok (.if_icmp .eq 31, 3) := by decide +kernel
theorem dX1_hasCorner_12 : decode cX1_hasCorner 12 = .ok (.aload_n 0, 1) := by decide +kernel
theorem dX1_hasCorner_13 : decode cX1_hasCorner 13 = .ok (.getfield 9, 3) := by decide +kernel
theorem dX1_hasCorner_16 : decode cX1_hasCorner 16 = .ok (.iconst 3, 1) := by decide +kernel
theorem dX1_hasCorner_17 : decode cX1_hasCorner 17 = .ok (.iload_n 1, 1) := by decide +kernel
theorem dX1_hasCorner_18 : decode cX1_hasCorner 18 = .ok (.imul, 1) := by decide +kernel
theorem dX1_hasCorner_19 : decode cX1_hasCorner 19 = .ok (.iconst 1, 1) := by decide +kernel
theorem dX1_hasCorner_20 : decode cX1_hasCorner 20 = .ok (.iadd, 1) := by decide +kernel
theorem dX1_hasCorner_21 : decode cX1_hasCorner 21 = .ok (.iaload, 1) := by decide +kernel
theorem dX1_hasCorner_22 : decode cX1_hasCorner 22 = .ok (.iload_n 2, 1) := by decide +kernel
theorem dX1_hasCorner_23 : decode cX1_hasCorner 23 = .ok (.if_icmp .eq 17, 3) := by decide +kernel
theorem dX1_hasCorner_26 : decode cX1_hasCorner 26 = .ok (.aload_n 0, 1) := by decide +kernel
theorem dX1_hasCorner_27 : decode cX1_hasCorner 27 = .ok (.getfield 9, 3) := by decide +kernel
theorem dX1_hasCorner_30 : decode cX1_hasCorner 30 = .ok (.iconst 3, 1) := by decide +kernel
theorem dX1_hasCorner_31 : decode cX1_hasCorner 31 = .ok (.iload_n 1, 1) := by decide +kernel
theorem dX1_hasCorner_32 : decode cX1_hasCorner 32 = .ok (.imul, 1) := by decide +kernel
theorem dX1_hasCorner_33 : decode cX1_hasCorner 33 = .ok (.iconst 2, 1) := by decide +kernel
theorem dX1_hasCorner_34 : decode cX1_hasCorner 34 = .ok (.iadd, 1) := by decide +kernel
theorem dX1_hasCorner_35 : decode cX1_hasCorner 35 = .ok (.iaload, 1) := by decide +kernel
theorem dX1_hasCorner_36 : decode cX1_hasCorner 36 = .ok (.iload_n 2, 1) := by decide +kernel
theorem dX1_hasCorner_37 : decode cX1_hasCorner 37 = .ok (.if_icmp .ne 7, 3) := by decide +kernel
theorem dX1_hasCorner_40 : decode cX1_hasCorner 40 = .ok (.iconst 1, 1) := by decide +kernel
theorem dX1_hasCorner_41 : decode cX1_hasCorner 41 = .ok (.goto 4, 3) := by decide +kernel
theorem dX1_hasCorner_44 : decode cX1_hasCorner 44 = .ok (.iconst 0, 1) := by decide +kernel
theorem dX1_hasCorner_45 : decode cX1_hasCorner 45 = .ok (.ireturn, 1) := by decide +kernel
theorem dX1_thirdCorner_0 : decode cX1_thirdCorner 0 = .ok (.aload_n 0, 1) := by decide +kernel
theorem dX1_thirdCorner_1 : decode cX1_thirdCorner 1 = .ok (.getfield 9, 3) := by decide +kernel
theorem dX1_thirdCorner_4 : decode cX1_thirdCorner 4 = .ok (.iconst 3, 1) := by decide +kernel
theorem dX1_thirdCorner_5 : decode cX1_thirdCorner 5 = .ok (.iload_n 1, 1) := by decide +kernel
theorem dX1_thirdCorner_6 : decode cX1_thirdCorner 6 = .ok (.imul, 1) := by decide +kernel
theorem dX1_thirdCorner_7 : decode cX1_thirdCorner 7 = .ok (.iaload, 1) := by decide +kernel
theorem dX1_thirdCorner_8 : decode cX1_thirdCorner 8 = .ok (.aload_n 0, 1) := by decide +kernel
theorem dX1_thirdCorner_9 : decode cX1_thirdCorner 9 = .ok (.getfield 9, 3) := by decide +kernel
theorem dX1_thirdCorner_12 : decode cX1_thirdCorner 12 = .ok (.iconst 3, 1) := by decide +kernel
theorem dX1_thirdCorner_13 : decode cX1_thirdCorner 13 = .ok (.iload_n 1, 1) := by decide +kernel
theorem dX1_thirdCorner_14 : decode cX1_thirdCorner 14 = .ok (.imul, 1) := by decide +kernel
theorem dX1_thirdCorner_15 : decode cX1_thirdCorner 15 = .ok (.iconst 1, 1) := by decide +kernel
theorem dX1_thirdCorner_16 : decode cX1_thirdCorner 16 = .ok (.iadd, 1) := by decide +kernel
theorem dX1_thirdCorner_17 : decode cX1_thirdCorner 17 = .ok (.iaload, 1) := by decide +kernel
theorem dX1_thirdCorner_18 : decode cX1_thirdCorner 18 = .ok (.iadd, 1) := by decide +kernel
theorem dX1_thirdCorner_19 : decode cX1_thirdCorner 19 = .ok (.aload_n 0, 1) := by decide +kernel
theorem dX1_thirdCorner_20 : decode cX1_thirdCorner 20 = .ok (.getfield 9, 3) := by decide +kernel
theorem dX1_thirdCorner_23 : decode cX1_thirdCorner 23 = .ok (.iconst 3, 1) := by decide +kernel
theorem dX1_thirdCorner_24 : decode cX1_thirdCorner 24 = .ok (.iload_n 1, 1) := by decide +kernel
theorem dX1_thirdCorner_25 : decode cX1_thirdCorner 25 = .ok (.imul, 1) := by decide +kernel
theorem dX1_thirdCorner_26 : decode cX1_thirdCorner 26 = .ok (.iconst 2, 1) := by decide +kernel
theorem dX1_thirdCorner_27 : decode cX1_thirdCorner 27 = .ok (.iadd, 1) := by decide +kernel
theorem dX1_thirdCorner_28 : decode cX1_thirdCorner 28 = .ok (.iaload, 1) := by decide +kernel
theorem dX1_thirdCorner_29 : decode cX1_thirdCorner 29 = .ok (.iadd, 1) := by decide +kernel
theorem dX1_thirdCorner_30 : decode cX1_thirdCorner 30 = .ok (.iload_n 2, 1) := by decide +kernel
theorem dX1_thirdCorner_31 : decode cX1_thirdCorner 31 = .ok (.isub, 1) := by decide +kernel
theorem dX1_thirdCorner_32 : decode cX1_thirdCorner 32 = .ok (.iload_n 3, 1) := by decide +kernel
theorem dX1_thirdCorner_33 : decode cX1_thirdCorner 33 = .ok (.isub, 1) := by decide +kernel
theorem dX1_thirdCorner_34 : decode cX1_thirdCorner 34 = .ok (.ireturn, 1) := by decide +kernel
theorem dX1_hasEdge_0 : decode cX1_hasEdge 0 = .ok (.aload_n 0, 1) := by decide +kernel
theorem dX1_hasEdge_1 : decode cX1_hasEdge 1 = .ok (.getfield 9, 3) := by decide +kernel
theorem dX1_hasEdge_4 : decode cX1_hasEdge 4 = .ok (.iconst 3, 1) := by decide +kernel
theorem dX1_hasEdge_5 : decode cX1_hasEdge 5 = .ok (.iload_n 1, 1) := by decide +kernel
theorem dX1_hasEdge_6 : decode cX1_hasEdge 6 = .ok (.imul, 1) := by decide +kernel
theorem dX1_hasEdge_7 : decode cX1_hasEdge 7 = .ok (.iaload, 1) := by decide +kernel
theorem dX1_hasEdge_8 : decode cX1_hasEdge 8 = .ok (.istore 4, 2) := by decide +kernel
theorem dX1_hasEdge_10 : decode cX1_hasEdge 10 = .ok (.aload_n 0, 1) := by decide +kernel
theorem dX1_hasEdge_11 : decode cX1_hasEdge 11 = .ok (.getfield 9, 3) := by decide +kernel
theorem dX1_hasEdge_14 : decode cX1_hasEdge 14 = .ok (.iconst 3, 1) := by decide +kernel
theorem dX1_hasEdge_15 : decode cX1_hasEdge 15 = .ok (.iload_n 1, 1) := by decide +kernel
theorem dX1_hasEdge_16 : decode cX1_hasEdge 16 = .ok (.imul, 1) := by decide +kernel
theorem dX1_hasEdge_17 : decode cX1_hasEdge 17 = .ok (.iconst 1, 1) := by decide +kernel
theorem dX1_hasEdge_18 : decode cX1_hasEdge 18 = .ok (.iadd, 1) := by decide +kernel
theorem dX1_hasEdge_19 : decode cX1_hasEdge 19 = .ok (.iaload, 1) := by decide +kernel
theorem dX1_hasEdge_20 : decode cX1_hasEdge 20 = .ok (.istore 5, 2) := by decide +kernel
theorem dX1_hasEdge_22 : decode cX1_hasEdge 22 = .ok (.aload_n 0, 1) := by decide +kernel
theorem dX1_hasEdge_23 : decode cX1_hasEdge 23 = .ok (.getfield 9, 3) := by decide +kernel
theorem dX1_hasEdge_26 : decode cX1_hasEdge 26 = .ok (.iconst 3, 1) := by decide +kernel
theorem dX1_hasEdge_27 : decode cX1_hasEdge 27 = .ok (.iload_n 1, 1) := by decide +kernel
theorem dX1_hasEdge_28 : decode cX1_hasEdge 28 = .ok (.imul, 1) := by decide +kernel
theorem dX1_hasEdge_29 : decode cX1_hasEdge 29 = .ok (.iconst 2, 1) := by decide +kernel
theorem dX1_hasEdge_30 : decode cX1_hasEdge 30 = .ok (.iadd, 1) := by decide +kernel
theorem dX1_hasEdge_31 : decode cX1_hasEdge 31 = .ok (.iaload, 1) := by decide +kernel
theorem dX1_hasEdge_32 : decode cX1_hasEdge 32 = .ok (.istore 6, 2) := by decide +kernel
theorem dX1_hasEdge_34 : decode cX1_hasEdge 34 = .ok (.iload 4, 2) := by decide +kernel
theorem dX1_hasEdge_36 : decode cX1_hasEdge 36 = .ok (.iload_n 2, 1) := by decide +kernel
theorem dX1_hasEdge_37 : decode cX1_hasEdge 37 = .ok (.if_icmp .ne 9, 3) := by decide +kernel
theorem dX1_hasEdge_40 : decode cX1_hasEdge 40 = .ok (.iload 5, 2) := by decide +kernel
theorem dX1_hasEdge_42 : decode cX1_hasEdge 42 = .ok (.iload_n 3, 1) := by decide +kernel
theorem dX1_hasEdge_43 : decode cX1_hasEdge 43 = .ok (.if_icmp .eq 27, 3) := by decide +kernel
theorem dX1_hasEdge_46 : decode cX1_hasEdge 46 = .ok (.iload 5, 2) := by decide +kernel
theorem dX1_hasEdge_48 : decode cX1_hasEdge 48 = .ok (.iload_n 2, 1) := by decide +kernel
theorem dX1_hasEdge_49 : decode cX1_hasEdge 49 = .ok (.if_icmp .ne 9, 3) := by decide +kernel
theorem dX1_hasEdge_52 : decode cX1_hasEdge 52 = .ok (.iload 6, 2) := by decide +kernel
theorem dX1_hasEdge_54 : decode cX1_hasEdge 54 = .ok (.iload_n 3, 1) := by decide +kernel
theorem dX1_hasEdge_55 : decode cX1_hasEdge 55 = .ok (.if_icmp .eq 15, 3) := by decide +kernel
theorem dX1_hasEdge_58 : decode cX1_hasEdge 58 = .ok (.iload 6, 2) := by decide +kernel
theorem dX1_hasEdge_60 : decode cX1_hasEdge 60 = .ok (.iload_n 2, 1) := by decide +kernel
theorem dX1_hasEdge_61 : decode cX1_hasEdge 61 = .ok (.if_icmp .ne 13, 3) := by decide +kernel
theorem dX1_hasEdge_64 : decode cX1_hasEdge 64 = .ok (.iload 4, 2) := by decide +kernel
theorem dX1_hasEdge_66 : decode cX1_hasEdge 66 = .ok (.iload_n 3, 1) := by decide +kernel
theorem dX1_hasEdge_67 : decode cX1_hasEdge 67 = .ok (.if_icmp .ne 7, 3) := by decide +kernel
theorem dX1_hasEdge_70 : decode cX1_hasEdge 70 = .ok (.iconst 1, 1) := by decide +kernel
theorem dX1_hasEdge_71 : decode cX1_hasEdge 71 = .ok (.goto 4, 3) := by decide +kernel
theorem dX1_hasEdge_74 : decode cX1_hasEdge 74 = .ok (.iconst 0, 1) := by decide +kernel
theorem dX1_hasEdge_75 : decode cX1_hasEdge 75 = .ok (.ireturn, 1) := by decide +kernel
set_option maxRecDepth 20000 in
theorem ggX1_neighbour_X1_cornerOf : GoodIn wsX1_neighbour wsX1_cornerOf := goodIn_r _ [7, 8, 13, 14, 15, 16] (by decide +kernel) (by decide +kernel)
set_option maxRecDepth 20000 in
theorem gX1_neighbour_X1_cornerOf : GoodIn wsX1_neighbour (wsV RX1 29 RX1 yX1_cornerOf wsX1_cornerOf) := goodIn_app (goodIn_of _ (by decide +kernel)) ggX1_neighbour_X1_cornerOf
set_option maxRecDepth 20000 in
theorem ggX1_neighbour_X1_hasEdge : GoodIn wsX1_neighbour wsX1_hasEdge := goodIn_r _ [12, 8, 13, 14, 15, 16] (by decide +kernel) (by decide +kernel)
set_option maxRecDepth 20000 in
theorem gX1_neighbour_X1_hasEdge : GoodIn wsX1_neighbour (wsV RX1 33 RX1 yX1_hasEdge wsX1_hasEdge) := goodIn_app (goodIn_of _ (by decide +kernel)) ggX1_neighbour_X1_hasEdge
theorem dX1_neighbour_0 : decode cX1_neighbour 0 = .ok (.aload_n 0, 1) := by decide +kernel
theorem dX1_neighbour_1 : decode cX1_neighbour 1 = .ok (.iload_n 1, 1) := by decide +kernel
theorem dX1_neighbour_2 : decode cX1_neighbour 2 = .ok (.iload_n 2, 1) := by decide +kernel
theorem dX1_neighbour_3 : decode cX1_neighbour 3 = .ok (.invokevirtual 29, 3) := by decide +kernel
theorem dX1_neighbour_6 : decode cX1_neighbour 6 = .ok (.istore_n 3, 1) := by decide +kernel
theorem dX1_neighbour_7 : decode cX1_neighbour 7 = .ok (.aload_n 0, 1) := by decide +kernel
theorem dX1_neighbour_8 : decode cX1_neighbour 8 = .ok (.iload_n 1, 1) := by decide +kernel
theorem dX1_neighbour_9 : decode cX1_neighbour 9 = .ok (.iload_n 2, 1) := by decide +kernel
theorem dX1_neighbour_10 : decode cX1_neighbour 10 = .ok (.iconst 1, 1) := by decide +kernel
theorem dX1_neighbour_11 : decode cX1_neighbour 11 = .ok (.iadd, 1) := by decide +kernel
theorem dX1_neighbour_12 : decode cX1_neighbour 12 = .ok (.invokevirtual 29, 3) := by decide +kernel
theorem dX1_neighbour_15 : decode cX1_neighbour 15 = .ok (.istore 4, 2) := by decide +kernel
theorem dX1_neighbour_17 : decode cX1_neighbour 17 = .ok (.iconst 0, 1) := by decide +kernel
theorem dX1_neighbour_18 : decode cX1_neighbour 18 = .ok (.istore 5, 2) := by decide +kernel
theorem dX1_neighbour_20 : decode cX1_neighbour 20 = .ok (.iload 5, 2) := by decide +kernel
theorem dX1_neighbour_22 : decode cX1_neighbour 22 = .ok (.aload_n 0, 1) := by decide +kernel
theorem dX1_neighbour_23 : decode cX1_neighbour 23 = .ok (.getfield 18, 3) := by decide +kernel
theorem dX1_neighbour_26 : decode cX1_neighbour 26 = .ok (.if_icmp .ge 34, 3) := by decide +kernel
theorem dX1_neighbour_29 : decode cX1_neighbour 29 = .ok (.aload_n 0, 1) := by decide +kernel
theorem dX1_neighbour_30 : decode cX1_neighbour 30 = .ok (.aload_n 0, 1) := by decide +kernel
theorem dX1_neighbour_31 : decode cX1_neighbour 31 = .ok (.getfield 15, 3) := by decide +kernel
theorem dX1_neighbour_34 : decode cX1_neighbour 34 = .ok (.iload 5, 2) := by decide +kernel
theorem dX1_neighbour_36 : decode cX1_neighbour 36 = .ok (.iaload, 1) := by decide +kernel
theorem dX1_neighbour_37 : decode cX1_neighbour 37 = .ok (.iload 4, 2) := by decide +kernel
theorem dX1_neighbour_39 : decode cX1_neighbour 39 = .ok (.iload_n 3, 1) := by decide +kernel
theorem dX1_neighbour_40 : decode cX1_neighbour 40 = .ok (.invokevirtual 33, 3) := by decide +kernel
theorem dX1_neighbour_43 : decode cX1_neighbour 43 = .ok (.ifCond .eq 11, 3) := by decide +kernel
theorem dX1_neighbour_46 : decode cX1_neighbour 46 = .ok (.aload_n 0, 1) := by decide +kernel
theorem dX1_neighbour_47 : decode cX1_neighbour 47 = .ok (.getfield 15, 3) := by decide +kernel
theorem dX1_neighbour_50 : decode cX1_neighbour 50 = .ok (.iload 5, 2) := by decide +kernel
theorem dX1_neighbour_52 : decode cX1_neighbour 52 = .ok (.iaload, 1) := by decide +kernel
theorem dX1_neighbour_53 : decode cX1_neighbour 53 = .ok (.ireturn, 1) := by decide +kernel
theorem dX1_neighbour_54 : decode cX1_neighbour 54 = .ok (.iinc 5 1, 3) := by decide +kernel
theorem dX1_neighbour_57 : decode cX1_neighbour 57 = .ok (.goto (-37), 3) := by decide +kernel
theorem dX1_neighbour_60 : decode cX1_neighbour 60 = .ok (.iconst (-1), 1) := by decide +kernel
theorem dX1_neighbour_61 : decode cX1_neighbour 61 = .ok (.ireturn, 1) := by decide +kernel
