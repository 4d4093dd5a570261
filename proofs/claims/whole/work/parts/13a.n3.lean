theorem dX3_init_0 : decode cX3_init 0 = .ok (.aload_n 0, 1) := by decide +kernel
theorem dX3_init_1 : decode cX3_init 1 = .ok (.invokespecial 1, 3) := by decide +kernel
theorem dX3_init_4 : decode cX3_init 4 = .ok (.aload_n 0, 1) := by decide +kernel
theorem dX3_init_5 : decode cX3_init 5 = .ok (.bipush 60, 2) := by decide +kernel
theorem dX3_init_7 : decode cX3_init 7 = .ok (.newarray .int, 2) := by decide +kernel
theorem dX3_init_9 : decode cX3_init 9 = .ok (.putfield 7, 3) := by decide +kernel
theorem dX3_init_12 : decode cX3_init 12 = .ok (.aload_n 0, 1) := by decide +kernel
theorem dX3_init_13 : decode cX3_init 13 = .ok (.bipush 60, 2) := by decide +kernel
theorem dX3_init_15 : decode cX3_init 15 = .ok (.newarray .int, 2) := by decide +kernel
theorem dX3_init_17 : decode cX3_init 17 = .ok (.putfield 13, 3) := by decide +kernel
theorem dX3_init_20 : decode cX3_init 20 = .ok (.aload_n 0, 1) := by decide +kernel
theorem dX3_init_21 : decode cX3_init 21 = .ok (.sipush 200, 3) := by decide +kernel
theorem dX3_init_24 : decode cX3_init 24 = .ok (.newarray .boolean, 2) := by decide +kernel
theorem dX3_init_26 : decode cX3_init 26 = .ok (.putfield 16, 3) := by decide +kernel
theorem dX3_init_29 : decode cX3_init 29 = .ok (.aload_n 0, 1) := by decide +kernel
theorem dX3_init_30 : decode cX3_init 30 = .ok (.sipush 600, 3) := by decide +kernel
theorem dX3_init_33 : decode cX3_init 33 = .ok (.newarray .int, 2) := by decide +kernel
theorem dX3_init_35 : decode cX3_init 35 = .ok (.putfield 20, 3) := by decide +kernel
theorem dX3_init_38 : decode cX3_init 38 = .ok (.aload_n 0, 1) := by decide +kernel
theorem dX3_init_39 : decode cX3_init 39 = .ok (.iconst (-1), 1) := by decide +kernel
theorem dX3_init_40 : decode cX3_init 40 = .ok (.putfield 23, 3) := by decide +kernel
theorem dX3_init_43 : decode cX3_init 43 = .ok (.aload_n 0, 1) := by decide +kernel
theorem dX3_init_44 : decode cX3_init 44 = .ok (.iconst (-1), 1) := by decide +kernel
theorem dX3_init_45 : decode cX3_init 45 = .ok (.putfield 27, 3) := by decide +kernel
theorem dX3_init_48 : decode cX3_init 48 = .ok (.aload_n 0, 1) := by decide +kernel
theorem dX3_init_49 : decode cX3_init 49 = .ok (.sipush 200, 3) := by decide +kernel
theorem dX3_init_52 : decode cX3_init 52 = .ok (.newarray .int, 2) := by decide +kernel
theorem dX3_init_54 : decode cX3_init 54 = .ok (.putfield 30, 3) := by decide +kernel
theorem dX3_init_57 : decode cX3_init 57 = .ok (.return_, 1) := by decide +kernel
theorem dX3_thrown_0 : decode cX3_thrown 0 = .ok (.aload_n 0, 1) := by decide +kernel
theorem dX3_thrown_1 : decode cX3_thrown 1 = .ok (.getfield 33, 3) := by decide +kernel
theorem dX3_thrown_4 : decode cX3_thrown 4 = .ok (.ireturn, 1) := by decide +kernel
theorem dX3_in_0 : decode cX3_in 0 = .ok (.iload_n 0, 1) := by decide +kernel
theorem dX3_in_1 : decode cX3_in 1 = .ok (.ifCond .lt 12, 3) := by decide +kernel
theorem dX3_in_4 : decode cX3_in 4 = .ok (.iload_n 0, 1) := by decide +kernel
theorem dX3_in_5 : decode cX3_in 5 = .ok (.iload_n 1, 1) := by decide +kernel
theorem dX3_in_6 : decode cX3_in 6 = .ok (.if_icmp .ge 7, 3) := by decide +kernel
theorem dX3_in_9 : decode cX3_in 9 = .ok (.iconst 1, 1) := by decide +kernel
theorem dX3_in_10 : decode cX3_in 10 = .ok (.goto 4, 3) := by decide +kernel
theorem dX3_in_13 : decode cX3_in 13 = .ok (.iconst 0, 1) := by decide +kernel
theorem dX3_in_14 : decode cX3_in 14 = .ok (.ireturn, 1) := by decide +kernel
theorem dX3_turnOf_0 : decode cX3_turnOf 0 = .ok (.lload 4, 2) := by decide +kernel
theorem dX3_turnOf_2 : decode cX3_turnOf 2 = .ok (.lload_n 0, 1) := by decide +kernel
theorem dX3_turnOf_3 : decode cX3_turnOf 3 = .ok (.lsub, 1) := by decide +kernel
theorem dX3_turnOf_4 : decode cX3_turnOf 4 = .ok (.lload 10, 2) := by decide +kernel
theorem dX3_turnOf_6 : decode cX3_turnOf 6 = .ok (.lload_n 2, 1) := by decide +kernel
theorem dX3_turnOf_7 : decode cX3_turnOf 7 = .ok (.lsub, 1) := by decide +kernel
theorem dX3_turnOf_8 : decode cX3_turnOf 8 = .ok (.lmul, 1) := by decide +kernel
theorem dX3_turnOf_9 : decode cX3_turnOf 9 = .ok (.lload 6, 2) := by decide +kernel
theorem dX3_turnOf_11 : decode cX3_turnOf 11 = .ok (.lload_n 2, 1) := by decide +kernel
theorem dX3_turnOf_12 : decode cX3_turnOf 12 = .ok (.lsub, 1) := by decide +kernel
theorem dX3_turnOf_13 : decode cX3_turnOf 13 = .ok (.lload 8, 2) := by decide +kernel
theorem dX3_turnOf_15 : decode cX3_turnOf 15 = .ok (.lload_n 0, 1) := by decide +kernel
theorem dX3_turnOf_16 : decode cX3_turnOf 16 = .ok (.lsub, 1) := by decide +kernel
theorem dX3_turnOf_17 : decode cX3_turnOf 17 = .ok (.lmul, 1) := by decide +kernel
theorem dX3_turnOf_18 : decode cX3_turnOf 18 = .ok (.lsub, 1) := by decide +kernel
theorem dX3_turnOf_19 : decode cX3_turnOf 19 = .ok (.lreturn, 1) := by decide +kernel
set_option maxRecDepth 20000 in
theorem ggX3_turnOfPoints_X3_turnOf : GoodIn wsX3_turnOfPoints wsX3_turnOf := goodIn_r _ [6] (by decide +kernel) (by decide +kernel)
set_option maxRecDepth 20000 in
theorem gX3_turnOfPoints_X3_turnOf : GoodIn wsX3_turnOfPoints (va_wsS RX3 36 yX3_turnOf wsX3_turnOf) := goodIn_app (goodIn_of _ (by decide +kernel)) ggX3_turnOfPoints_X3_turnOf
theorem dX3_turnOfPoints_0 : decode cX3_turnOfPoints 0 = .ok (.aload_n 0, 1) := by decide +kernel
theorem dX3_turnOfPoints_1 : decode cX3_turnOfPoints 1 = .ok (.getfield 7, 3) := by decide +kernel
theorem dX3_turnOfPoints_4 : decode cX3_turnOfPoints 4 = .ok (.iload_n 1, 1) := by decide +kernel
theorem dX3_turnOfPoints_5 : decode cX3_turnOfPoints 5 = .ok (.iaload, 1) := by decide +kernel
theorem dX3_turnOfPoints_6 : decode cX3_turnOfPoints 6 = .ok (.i2l, 1) := by decide +kernel
theorem dX3_turnOfPoints_7 : decode cX3_turnOfPoints 7 = .ok (.aload_n 0, 1) := by decide +kernel
theorem dX3_turnOfPoints_8 : decode cX3_turnOfPoints 8 = .ok (.getfield 13, 3) := by decide +kernel
theorem dX3_turnOfPoints_11 : decode cX3_turnOfPoints 11 = .ok (.iload_n 1, 1) := by decide +kernel
theorem dX3_turnOfPoints_12 : decode cX3_turnOfPoints 12 = .ok (.iaload, 1) := by decide +kernel
theorem dX3_turnOfPoints_13 : decode cX3_turnOfPoints 13 = .ok (.i2l, 1) := by decide +kernel
theorem dX3_turnOfPoints_14 : decode cX3_turnOfPoints 14 = .ok (.aload_n 0, 1) := by decide +kernel
theorem dX3_turnOfPoints_15 : decode cX3_turnOfPoints 15 = .ok (.getfield 7, 3) := by decide +kernel
theorem dX3_turnOfPoints_18 : decode cX3_turnOfPoints 18 = .ok (.iload_n 2, 1) := by decide +kernel
theorem dX3_turnOfPoints_19 : decode cX3_turnOfPoints 19 = .ok (.iaload, 1) := by decide +kernel
theorem dX3_turnOfPoints_20 : decode cX3_turnOfPoints 20 = .ok (.i2l, 1) := by decide +kernel
theorem dX3_turnOfPoints_21 : decode cX3_turnOfPoints 21 = .ok (.aload_n 0, 1) := by decide +kernel
theorem dX3_turnOfPoints_22 : decode cX3_turnOfPoints 22 = .ok (.getfield 13, 3) := by decide +kernel
theorem dX3_turnOfPoints_25 : decode cX3_turnOfPoints 25 = .ok (.iload_n 2, 1) := by decide +kernel
theorem dX3_turnOfPoints_26 : decode cX3_turnOfPoints 26 = .ok (.iaload, 1) := by decide +kernel
theorem dX3_turnOfPoints_27 : decode cX3_turnOfPoints 27 = .ok (.i2l, 1) := by decide +kernel
theorem dX3_turnOfPoints_28 : decode cX3_turnOfPoints 28 = .ok (.aload_n 0, 1) := by decide +kernel
theorem dX3_turnOfPoints_29 : decode cX3_turnOfPoints 29 = .ok (.getfield 7, 3) := by decide +kernel
theorem dX3_turnOfPoints_32 : decode cX3_turnOfPoints 32 = .ok (.iload_n 3, 1) := by decide +kernel
theorem dX3_turnOfPoints_33 : decode cX3_turnOfPoints 33 = .ok (.iaload, 1) := by decide +kernel
theorem dX3_turnOfPoints_34 : decode cX3_turnOfPoints 34 = .ok (.i2l, 1) := by decide +kernel
theorem dX3_turnOfPoints_35 : decode cX3_turnOfPoints 35 = .ok (.aload_n 0, 1) := by decide +kernel
theorem dX3_turnOfPoints_36 : decode cX3_turnOfPoints 36 = .ok (.getfield 13, 3) := by decide +kernel
theorem dX3_turnOfPoints_39 : decode cX3_turnOfPoints 39 = .ok (.iload_n 3, 1) := by decide +kernel
theorem dX3_turnOfPoints_40 : decode cX3_turnOfPoints 40 = .ok (.iaload, 1) := by decide +kernel
theorem dX3_turnOfPoints_41 : decode cX3_turnOfPoints 41 = .ok (.i2l, 1) := by decide +kernel
theorem dX3_turnOfPoints_42 : decode cX3_turnOfPoints 42 = .ok (.invokestatic 36, 3) := by decide +kernel
theorem dX3_turnOfPoints_45 : decode cX3_turnOfPoints 45 = .ok (.lreturn, 1) := by decide +kernel
theorem dX3_pointAt_0 : decode cX3_pointAt 0 = .ok (.iconst 0, 1) := by decide +kernel
theorem dX3_pointAt_1 : decode cX3_pointAt 1 = .ok (.istore_n 3, 1) := by decide +kernel
theorem dX3_pointAt_2 : decode cX3_pointAt 2 = .ok (.iload_n 3, 1) := by decide +kernel
theorem dX3_pointAt_3 : decode cX3_pointAt 3 = .ok (.aload_n 0, 1) := by decide +kernel
theorem dX3_pointAt_4 : decode cX3_pointAt 4 = .ok (.getfield 40, 3) := by decide +kernel
theorem dX3_pointAt_7 : decode cX3_pointAt 7 = .ok (.if_icmp .ge 31, 3) := by decide +kernel
theorem dX3_pointAt_10 : decode cX3_pointAt 10 = .ok (.aload_n 0, 1) := by decide +kernel
theorem dX3_pointAt_11 : decode cX3_pointAt 11 = .ok (.getfield 7, 3) := by decide +kernel
theorem dX3_pointAt_14 : decode cX3_pointAt 14 = .ok (.iload_n 3, 1) := by decide +kernel
theorem dX3_pointAt_15 : decode cX3_pointAt 15 = .ok (.iaload, 1) := by decide +kernel
theorem dX3_pointAt_16 : decode cX3_pointAt 16 = .ok (.iload_n 1, 1) := by decide +kernel
theorem dX3_pointAt_17 : decode cX3_pointAt 17 = .ok (.if_icmp .ne 15, 3) := by decide +kernel
theorem dX3_pointAt_20 : decode cX3_pointAt 20 = .ok (.aload_n 0, 1) := by decide +kernel
theorem dX3_pointAt_21 : decode cX3_pointAt 21 = .ok (.getfield 13, 3) := by decide +kernel
theorem dX3_pointAt_24 : decode cX3_pointAt 24 = .ok (.iload_n 3, 1) := by decide +kernel
theorem dX3_pointAt_25 : decode cX3_pointAt 25 = .ok (.iaload, 1) := by decide +kernel
theorem dX3_pointAt_26 : decode cX3_pointAt 26 = .ok (.iload_n 2, 1) := by decide +kernel
theorem dX3_pointAt_27 : decode cX3_pointAt 27 = .ok (.if_icmp .ne 5, 3) := by decide +kernel
theorem dX3_pointAt_30 : decode cX3_pointAt 30 = .ok (.iload_n 3, 1) := by decide +kernel
theorem dX3_pointAt_31 : decode cX3_pointAt 31 = .ok (.ireturn, 1) := by decide +kernel
theorem dX3_pointAt_32 : decode cX3_pointAt 32 = .ok (.iinc 3 1, 3) := by decide +kernel
theorem dX3_pointAt_35 : decode cX3_pointAt 35 = .ok (.goto (-33), 3) := by decide +kernel
theorem dX3_pointAt_38 : decode cX3_pointAt 38 = .ok (.iconst (-1), 1) := by decide +kernel
theorem dX3_pointAt_39 : decode cX3_pointAt 39 = .ok (.ireturn, 1) := by decide +kernel
theorem dX3_at_0 : decode cX3_at 0 = .ok (.aload_n 0, 1) := by decide +kernel
theorem dX3_at_1 : decode cX3_at 1 = .ok (.getfield 20, 3) := by decide +kernel
theorem dX3_at_4 : decode cX3_at 4 = .ok (.iconst 3, 1) := by decide +kernel
theorem dX3_at_5 : decode cX3_at 5 = .ok (.iload_n 1, 1) := by decide +kernel
theorem dX3_at_6 : decode cX3_at 6 = .ok (.imul, 1) := by decide +kernel
theorem dX3_at_7 : decode cX3_at 7 = .ok (.iload_n 2, 1) := by decide +kernel
theorem dX3_at_8 : decode cX3_at 8 = .ok (.iconst 3, 1) := by decide +kernel
theorem dX3_at_9 : decode cX3_at 9 = .ok (.irem, 1) := by decide +kernel
theorem dX3_at_10 : decode cX3_at 10 = .ok (.iadd, 1) := by decide +kernel
theorem dX3_at_11 : decode cX3_at 11 = .ok (.iaload, 1) := by decide +kernel
theorem dX3_at_12 : decode cX3_at 12 = .ok (.ireturn, 1) := by decide +kernel
set_option maxRecDepth 20000 in
theorem ggX3_isThere_X3_in : GoodIn wsX3_isThere wsX3_in := goodIn_r _ [6] (by decide +kernel) (by decide +kernel)
set_option maxRecDepth 20000 in
theorem gX3_isThere_X3_in : GoodIn wsX3_isThere (va_wsS RX3 46 yX3_in wsX3_in) := goodIn_app (goodIn_of _ (by decide +kernel)) ggX3_isThere_X3_in
theorem dX3_isThere_0 : decode cX3_isThere 0 = .ok (.iload_n 1, 1) := by decide +kernel
theorem dX3_isThere_1 : decode cX3_isThere 1 = .ok (.aload_n 0, 1) := by decide +kernel
theorem dX3_isThere_2 : decode cX3_isThere 2 = .ok (.getfield 43, 3) := by decide +kernel
theorem dX3_isThere_5 : decode cX3_isThere 5 = .ok (.invokestatic 46, 3) := by decide +kernel
theorem dX3_isThere_8 : decode cX3_isThere 8 = .ok (.ifCond .eq 16, 3) := by decide +kernel
theorem dX3_isThere_11 : decode cX3_isThere 11 = .ok (.aload_n 0, 1) := by decide +kernel
theorem dX3_isThere_12 : decode cX3_isThere 12 = .ok (.getfield 16, 3) := by decide +kernel
theorem dX3_isThere_15 : decode cX3_isThere 15 = .ok (.iload_n 1, 1) := by decide +kernel
theorem dX3_isThere_16 : decode cX3_isThere 16 = .ok (.baload, 1) := by decide +kernel
theorem dX3_isThere_17 : decode cX3_isThere 17 = .ok (.ifCond .eq 7, 3) := by decide +kernel
theorem dX3_isThere_20 : decode cX3_isThere 20 = .ok (.iconst 1, 1) := by decide +kernel
theorem dX3_isThere_21 : decode cX3_isThere 21 = .ok (.goto 4, 3) := by decide +kernel
theorem dX3_isThere_24 : decode cX3_isThere 24 = .ok (.iconst 0, 1) := by decide +kernel
theorem dX3_isThere_25 : decode cX3_isThere 25 = .ok (.ireturn, 1) := by decide +kernel
set_option maxRecDepth 20000 in
theorem ggX3_twice_X3_at : GoodIn wsX3_twice wsX3_at := goodIn_r _ [5, 6, 16, 17, 18, 19, 20, 21, 22, 23, 24, 25, 26] (by decide +kernel) (by decide +kernel)
set_option maxRecDepth 20000 in
theorem gX3_twice_X3_at : GoodIn wsX3_twice (wsV RX3 50 RX3 yX3_at wsX3_at) := goodIn_app (goodIn_of _ (by decide +kernel)) ggX3_twice_X3_at
set_option maxRecDepth 20000 in
theorem ggX3_twice_X3_turnOfPoints : GoodIn wsX3_twice wsX3_turnOfPoints := goodIn_r _ [10, 11, 12, 13, 14, 4, 15, 16, 17, 18, 19, 20, 21, 22, 23, 24, 25, 26] (by decide +kernel) (by decide +kernel)
set_option maxRecDepth 20000 in
theorem gX3_twice_X3_turnOfPoints : GoodIn wsX3_twice (wsV RX3 54 RX3 yX3_turnOfPoints wsX3_turnOfPoints) := goodIn_app (goodIn_of _ (by decide +kernel)) ggX3_twice_X3_turnOfPoints
theorem dX3_twice_0 : decode cX3_twice 0 = .ok (.aload_n 0, 1) := by decide +kernel
theorem dX3_twice_1 : decode cX3_twice 1 = .ok (.aload_n 0, 1) := by decide +kernel
theorem dX3_twice_2 : decode cX3_twice 2 = .ok (.iload_n 1, 1) := by decide +kernel
theorem dX3_twice_3 : decode cX3_twice 3 = .ok (.iconst 0, 1) := by decide +kernel
theorem dX3_twice_4 : decode cX3_twice 4 = .ok (.invokevirtual 50, 3) := by decide +kernel
theorem dX3_twice_7 : decode cX3_twice 7 = .ok (.aload_n 0, 1) := by decide +kernel
theorem dX3_twice_8 : decode cX3_twice 8 = .ok (.iload_n 1, 1) := by decide +kernel
theorem dX3_twice_9 : decode cX3_twice 9 = .ok (.iconst 1, 1) := by decide +kernel
theorem dX3_twice_10 : decode cX3_twice 10 = .ok (.invokevirtual 50, 3) := by decide +kernel
theorem dX3_twice_13 : decode cX3_twice 13 = .ok (.aload_n 0, 1) := by decide +kernel
theorem dX3_twice_14 : decode cX3_twice 14 = .ok (.iload_n 1, 1) := by decide +kernel
theorem dX3_twice_15 : decode cX3_twice 15 = .ok (.iconst 2, 1) := by decide +kernel
theorem dX3_twice_16 : decode cX3_twice 16 = .ok (.invokevirtual 50, 3) := by decide +kernel
theorem dX3_twice_19 : decode cX3_twice 19 = .ok (.invokevirtual 54, 3) := by decide +kernel
theorem dX3_twice_22 : decode cX3_twice 22 = .ok (.lreturn, 1) := by decide +kernel
set_option maxRecDepth 20000 in
theorem ggX3_isRight_X3_twice : GoodIn wsX3_isRight wsX3_twice := goodIn_r _ [5, 6, 7, 8, 4, 9, 10, 11, 12, 13, 14, 15, 16, 17, 18, 19, 20, 21, 22, 23, 24, 25, 26, 27, 28, 29, 30] (by decide +kernel) (by decide +kernel)
set_option maxRecDepth 20000 in
theorem gX3_isRight_X3_twice : GoodIn wsX3_isRight (wsV RX3 58 RX3 yX3_twice wsX3_twice) := goodIn_app (goodIn_of _ (by decide +kernel)) ggX3_isRight_X3_twice
theorem dX3_isRight_0 : decode cX3_isRight 0 = .ok (.aload_n 0, 1) := by decide +kernel
theorem dX3_isRight_1 : decode cX3_isRight 1 = .ok (.iload_n 1, 1) := by decide +kernel
theorem dX3_isRight_2 : decode cX3_isRight 2 = .ok (.invokevirtual 58, 3) := by decide +kernel
theorem dX3_isRight_5 : decode cX3_isRight 5 = .ok (.lconst 0, 1) := by decide +kernel
theorem dX3_isRight_6 : decode cX3_isRight 6 = .ok (.lcmp, 1) := by decide +kernel
theorem dX3_isRight_7 : decode cX3_isRight 7 = .ok (.ifCond .le 7, 3) := by decide +kernel
theorem dX3_isRight_10 : decode cX3_isRight 10 = .ok (.iconst 1, 1) := by decide +kernel
theorem dX3_isRight_11 : decode cX3_isRight 11 = .ok (.goto 4, 3) := by decide +kernel
theorem dX3_isRight_14 : decode cX3_isRight 14 = .ok (.iconst 0, 1) := by decide +kernel
theorem dX3_isRight_15 : decode cX3_isRight 15 = .ok (.ireturn, 1) := by decide +kernel
set_option maxRecDepth 20000 in
theorem ggX3_hasPlace_X3_at : GoodIn wsX3_hasPlace wsX3_at := goodIn_r _ [7, 8, 12, 13, 14, 15, 16, 17, 18, 19, 20, 21, 22] (by decide +kernel) (by decide +kernel)
set_option maxRecDepth 20000 in
theorem gX3_hasPlace_X3_at : GoodIn wsX3_hasPlace (wsV RX3 50 RX3 yX3_at wsX3_at) := goodIn_app (goodIn_of _ (by decide +kernel)) ggX3_hasPlace_X3_at
set_option maxRecDepth 20000 in
theorem ggX3_hasPlace_X3_turnOf : GoodIn wsX3_hasPlace wsX3_turnOf := goodIn_r _ [11] (by decide +kernel) (by decide +kernel)
set_option maxRecDepth 20000 in
theorem gX3_hasPlace_X3_turnOf : GoodIn wsX3_hasPlace (va_wsS RX3 36 yX3_turnOf wsX3_turnOf) := goodIn_app (goodIn_of _ (by decide +kernel)) ggX3_hasPlace_X3_turnOf
theorem dX3_hasPlace_0 : decode cX3_hasPlace 0 = .ok (.iconst 1, 1) := by decide +kernel
theorem dX3_hasPlace_1 : decode cX3_hasPlace 1 = .ok (.istore 6, 2) := by decide +kernel
theorem dX3_hasPlace_3 : decode cX3_hasPlace 3 = .ok (.iconst 0, 1) := by decide +kernel
theorem dX3_hasPlace_4 : decode cX3_hasPlace 4 = .ok (.istore 7, 2) := by decide +kernel
theorem dX3_hasPlace_6 : decode cX3_hasPlace 6 = .ok (.iload 7, 2) := by decide +kernel
theorem dX3_hasPlace_8 : decode cX3_hasPlace 8 = .ok (.iconst 3, 1) := by decide +kernel
theorem dX3_hasPlace_9 : decode cX3_hasPlace 9 = .ok (.if_icmp .ge 88, 3) := by decide +kernel
theorem dX3_hasPlace_12 : decode cX3_hasPlace 12 = .ok (.iload 6, 2) := by decide +kernel
theorem dX3_hasPlace_14 : decode cX3_hasPlace 14 = .ok (.ifCond .eq 74, 3) := by decide +kernel
theorem dX3_hasPlace_17 : decode cX3_hasPlace 17 = .ok (.aload_n 0, 1) := by decide +kernel
theorem dX3_hasPlace_18 : decode cX3_hasPlace 18 = .ok (.getfield 7, 3) := by decide +kernel
theorem dX3_hasPlace_21 : decode cX3_hasPlace 21 = .ok (.aload_n 0, 1) := by decide +kernel
theorem dX3_hasPlace_22 : decode cX3_hasPlace 22 = .ok (.iload_n 1, 1) := by decide +kernel
theorem dX3_hasPlace_23 : decode cX3_hasPlace 23 = .ok (.iload 7, 2) := by decide +kernel
theorem dX3_hasPlace_25 : decode cX3_hasPlace 25 = .ok (.invokevirtual 50, 3) := by decide +kernel
theorem dX3_hasPlace_28 : decode cX3_hasPlace 28 = .ok (.iaload, 1) := by decide +kernel
theorem dX3_hasPlace_29 : decode cX3_hasPlace 29 = .ok (.i2l, 1) := by decide +kernel
theorem dX3_hasPlace_30 : decode cX3_hasPlace 30 = .ok (.aload_n 0, 1) := by decide +kernel
theorem dX3_hasPlace_31 : decode cX3_hasPlace 31 = .ok (.getfield 13, 3) := by decide +kernel
theorem dX3_hasPlace_34 : decode cX3_hasPlace 34 = .ok (.aload_n 0, 1) := by decide +kernel
theorem dX3_hasPlace_35 : decode cX3_hasPlace 35 = .ok (.iload_n 1, 1) := by decide +kernel
theorem dX3_hasPlace_36 : decode cX3_hasPlace 36 = .ok (.iload 7, 2) := by decide +kernel
theorem dX3_hasPlace_38 : decode cX3_hasPlace 38 = .ok (.invokevirtual 50, 3) := by decide +kernel
theorem dX3_hasPlace_41 : decode cX3_hasPlace 41 = .ok (.iaload, 1) := by decide +kernel
theorem dX3_hasPlace_42 : decode cX3_hasPlace 42 = .ok (.i2l, 1) := by decide +kernel
theorem dX3_hasPlace_43 : decode cX3_hasPlace 43 = .ok (.aload_n 0, 1) := by decide +kernel
theorem dX3_hasPlace_44 : decode cX3_hasPlace 44 = .ok (.getfield 7, 3) := by decide +kernel
theorem dX3_hasPlace_47 : decode cX3_hasPlace 47 = .ok (.aload_n 0, 1) := by decide +kernel
theorem dX3_hasPlace_48 : decode cX3_hasPlace 48 = .ok (.iload_n 1, 1) := by decide +kernel
theorem dX3_hasPlace_49 : decode cX3_hasPlace 49 = .ok (.iload 7, 2) := by decide +kernel
theorem dX3_hasPlace_51 : decode cX3_hasPlace 51 = .ok (.iconst 1, 1) := by decide +kernel
theorem dX3_hasPlace_52 : decode cX3_hasPlace 52 = .ok (.iadd, 1) := by decide +kernel
theorem dX3_hasPlace_53 : decode cX3_hasPlace 53 = .ok (.invokevirtual 50, 3) := by decide +kernel
theorem dX3_hasPlace_56 : decode cX3_hasPlace 56 = .ok (.iaload, 1) := by decide +kernel
theorem dX3_hasPlace_57 : decode cX3_hasPlace 57 = .ok (.i2l, 1) := by decide +kernel
theorem dX3_hasPlace_58 : decode cX3_hasPlace 58 = .ok (.aload_n 0, 1) := by decide +kernel
theorem dX3_hasPlace_59 : decode cX3_hasPlace 59 = .ok (.getfield 13, 3) := by decide +kernel
theorem dX3_hasPlace_62 : decode cX3_hasPlace 62 = .ok (.aload_n 0, 1) := by decide +kernel
theorem dX3_hasPlace_63 : decode cX3_hasPlace 63 = .ok (.iload_n 1, 1) := by decide +kernel
theorem dX3_hasPlace_64 : decode cX3_hasPlace 64 = .ok (.iload 7, 2) := by decide +kernel
theorem dX3_hasPlace_66 : decode cX3_hasPlace 66 = .ok (.iconst 1, 1) := by decide +kernel
theorem dX3_hasPlace_67 : decode cX3_hasPlace 67 = .ok (.iadd, 1) := by decide +kernel
theorem dX3_hasPlace_68 : decode cX3_hasPlace 68 = .ok (.invokevirtual 50, 3) := by decide +kernel
theorem dX3_hasPlace_71 : decode cX3_hasPlace 71 = .ok (.iaload, 1) := by decide +kernel
theorem dX3_hasPlace_72 : decode cX3_hasPlace 72 = .ok (.i2l, 1) := by decide +kernel
theorem dX3_hasPlace_73 : decode cX3_hasPlace 73 = .ok (.lload_n 2, 1) := by decide +kernel
theorem dX3_hasPlace_74 : decode cX3_hasPlace 74 = .ok (.lload 4, 2) := by decide +kernel
theorem dX3_hasPlace_76 : decode cX3_hasPlace 76 = .ok (.invokestatic 36, 3) := by decide +kernel
theorem dX3_hasPlace_79 : decode cX3_hasPlace 79 = .ok (.lconst 0, 1) := by decide +kernel
theorem dX3_hasPlace_80 : decode cX3_hasPlace 80 = .ok (.lcmp, 1) := by decide +kernel
theorem dX3_hasPlace_81 : decode cX3_hasPlace 81 = .ok (.ifCond .lt 7, 3) := by decide +kernel
theorem dX3_hasPlace_84 : decode cX3_hasPlace 84 = .ok (.iconst 1, 1) := by decide +kernel
theorem dX3_hasPlace_85 : decode cX3_hasPlace 85 = .ok (.goto 4, 3) := by decide +kernel
theorem dX3_hasPlace_88 : decode cX3_hasPlace 88 = .ok (.iconst 0, 1) := by decide +kernel
theorem dX3_hasPlace_89 : decode cX3_hasPlace 89 = .ok (.istore 6, 2) := by decide +kernel
theorem dX3_hasPlace_91 : decode cX3_hasPlace 91 = .ok (.iinc 7 1, 3) := by decide +kernel
theorem dX3_hasPlace_94 : decode cX3_hasPlace 94 = .ok (.goto (-88), 3) := by decide +kernel
theorem dX3_hasPlace_97 : decode cX3_hasPlace 97 = .ok (.iload 6, 2) := by decide +kernel
theorem dX3_hasPlace_99 : decode cX3_hasPlace 99 = .ok (.ireturn, 1) := by decide +kernel
set_option maxRecDepth 20000 in
theorem ggX3_isCorner_X3_at : GoodIn wsX3_isCorner wsX3_at := goodIn_r _ [5, 6, 7, 8, 9, 10, 11, 12, 13, 14, 15, 16, 17] (by decide +kernel) (by decide +kernel)
set_option maxRecDepth 20000 in
theorem gX3_isCorner_X3_at : GoodIn wsX3_isCorner (wsV RX3 50 RX3 yX3_at wsX3_at) := goodIn_app (goodIn_of _ (by decide +kernel)) ggX3_isCorner_X3_at
theorem dX3_isCorner_0 : decode cX3_isCorner 0 = .ok (.aload_n 0, 1) := by decide +kernel
theorem dX3_isCorner_1 : decode cX3_isCorner 1 = .ok (.iload_n 1, 1) := by decide +kernel
theorem dX3_isCorner_2 : decode cX3_isCorner 2 = .ok (.iconst 0, 1) := by decide +kernel
theorem dX3_isCorner_3 : decode cX3_isCorner 3 = .ok (.invokevirtual 50, 3) := by decide +kernel
theorem dX3_isCorner_6 : decode cX3_isCorner 6 = .ok (.iload_n 2, 1) := by decide +kernel
theorem dX3_isCorner_7 : decode cX3_isCorner 7 = .ok (.if_icmp .eq 23, 3) := by decide +kernel
theorem dX3_isCorner_10 : decode cX3_isCorner 10 = .ok (.aload_n 0, 1) := by decide +kernel
theorem dX3_isCorner_11 : decode cX3_isCorner 11 = .ok (.iload_n 1, 1) := by decide +kernel
theorem dX3_isCorner_12 : decode cX3_isCorner 12 = .ok (.iconst 1, 1) := by decide +kernel
theorem dX3_isCorner_13 : decode cX3_isCorner 13 = .ok (.invokevirtual 50, 3) := by decide +kernel
theorem dX3_isCorner_16 : decode cX3_isCorner 16 = .ok (.iload_n 2, 1) := by decide +kernel
theorem dX3_isCorner_17 : decode cX3_isCorner 17 = .ok (.if_icmp .eq 13, 3) := by decide +kernel
theorem dX3_isCorner_20 : decode cX3_isCorner 20 = .ok (.aload_n 0, 1) := by decide +kernel
theorem dX3_isCorner_21 : decode cX3_isCorner 21 = .ok (.iload_n 1, 1) := by decide +kernel
theorem dX3_isCorner_22 : decode cX3_isCorner 22 = .ok (.iconst 2, 1) := by decide +kernel
theorem dX3_isCorner_23 : decode cX3_isCorner 23 = .ok (.invokevirtual 50, 3) := by decide +kernel
theorem dX3_isCorner_26 : decode cX3_isCorner 26 = .ok (.iload_n 2, 1) := by decide +kernel
theorem dX3_isCorner_27 : decode cX3_isCorner 27 = .ok (.if_icmp .ne 7, 3) := by decide +kernel
theorem dX3_isCorner_30 : decode cX3_isCorner 30 = .ok (.iconst 1, 1) := by decide +kernel
theorem dX3_isCorner_31 : decode cX3_isCorner 31 = .ok (.goto 4, 3) := by decide +kernel
theorem dX3_isCorner_34 : decode cX3_isCorner 34 = .ok (.iconst 0, 1) := by decide +kernel
theorem dX3_isCorner_35 : decode cX3_isCorner 35 = .ok (.ireturn, 1) := by decide +kernel
theorem dX3_sign_0 : decode cX3_sign 0 = .ok (.lload_n 0, 1) := by decide +kernel
theorem dX3_sign_1 : decode cX3_sign 1 = .ok (.lconst 0, 1) := by decide +kernel
theorem dX3_sign_2 : decode cX3_sign 2 = .ok (.lcmp, 1) := by decide +kernel
theorem dX3_sign_3 : decode cX3_sign 3 = .ok (.ifCond .ge 7, 3) := by decide +kernel
theorem dX3_sign_6 : decode cX3_sign 6 = .ok (.iconst (-1), 1) := by decide +kernel
theorem dX3_sign_7 : decode cX3_sign 7 = .ok (.goto 14, 3) := by decide +kernel
theorem dX3_sign_10 : decode cX3_sign 10 = .ok (.lload_n 0, 1) := by decide +kernel
theorem dX3_sign_11 : decode cX3_sign 11 = .ok (.lconst 0, 1) := by decide +kernel
theorem dX3_sign_12 : decode cX3_sign 12 = .ok (.lcmp, 1) := by decide +kernel
theorem dX3_sign_13 : decode cX3_sign 13 = .ok (.ifCond .le 7, 3) := by decide +kernel
theorem dX3_sign_16 : decode cX3_sign 16 = .ok (.iconst 1, 1) := by decide +kernel
theorem dX3_sign_17 : decode cX3_sign 17 = .ok (.goto 4, 3) := by decide +kernel
theorem dX3_sign_20 : decode cX3_sign 20 = .ok (.iconst 0, 1) := by decide +kernel
theorem dX3_sign_21 : decode cX3_sign 21 = .ok (.ireturn, 1) := by decide +kernel
set_option maxRecDepth 20000 in
theorem ggX3_isBetween_X3_turnOfPoints : GoodIn wsX3_isBetween wsX3_turnOfPoints := goodIn_r _ [7, 1, 2, 8, 9, 6, 10, 11, 12, 13, 14, 15, 16, 17, 18, 19, 20, 21] (by decide +kernel) (by decide +kernel)
set_option maxRecDepth 20000 in
theorem gX3_isBetween_X3_turnOfPoints : GoodIn wsX3_isBetween (wsV RX3 54 RX3 yX3_turnOfPoints wsX3_turnOfPoints) := goodIn_app (goodIn_of _ (by decide +kernel)) ggX3_isBetween_X3_turnOfPoints
theorem dX3_isBetween_0 : decode cX3_isBetween 0 = .ok (.aload_n 0, 1) := by decide +kernel
theorem dX3_isBetween_1 : decode cX3_isBetween 1 = .ok (.iload_n 2, 1) := by decide +kernel
theorem dX3_isBetween_2 : decode cX3_isBetween 2 = .ok (.iload_n 3, 1) := by decide +kernel
theorem dX3_isBetween_3 : decode cX3_isBetween 3 = .ok (.iload_n 1, 1) := by decide +kernel
theorem dX3_isBetween_4 : decode cX3_isBetween 4 = .ok (.invokevirtual 54, 3) := by decide +kernel
theorem dX3_isBetween_7 : decode cX3_isBetween 7 = .ok (.lconst 0, 1) := by decide +kernel
theorem dX3_isBetween_8 : decode cX3_isBetween 8 = .ok (.lcmp, 1) := by decide +kernel
theorem dX3_isBetween_9 : decode cX3_isBetween 9 = .ok (.ifCond .eq 5, 3) := by decide +kernel
theorem dX3_isBetween_12 : decode cX3_isBetween 12 = .ok (.iconst 0, 1) := by decide +kernel
theorem dX3_isBetween_13 : decode cX3_isBetween 13 = .ok (.ireturn, 1) := by decide +kernel
theorem dX3_isBetween_14 : decode cX3_isBetween 14 = .ok (.aload_n 0, 1) := by decide +kernel
theorem dX3_isBetween_15 : decode cX3_isBetween 15 = .ok (.getfield 7, 3) := by decide +kernel
theorem dX3_isBetween_18 : decode cX3_isBetween 18 = .ok (.iload_n 2, 1) := by decide +kernel
theorem dX3_isBetween_19 : decode cX3_isBetween 19 = .ok (.iaload, 1) := by decide +kernel
theorem dX3_isBetween_20 : decode cX3_isBetween 20 = .ok (.aload_n 0, 1) := by decide +kernel
theorem dX3_isBetween_21 : decode cX3_isBetween 21 = .ok (.getfield 7, 3) := by decide +kernel
theorem dX3_isBetween_24 : decode cX3_isBetween 24 = .ok (.iload_n 3, 1) := by decide +kernel
theorem dX3_isBetween_25 : decode cX3_isBetween 25 = .ok (.iaload, 1) := by decide +kernel
theorem dX3_isBetween_26 : decode cX3_isBetween 26 = .ok (.if_icmp .ge 12, 3) := by decide +kernel
theorem dX3_isBetween_29 : decode cX3_isBetween 29 = .ok (.aload_n 0, 1) := by decide +kernel
theorem dX3_isBetween_30 : decode cX3_isBetween 30 = .ok (.getfield 7, 3) := by decide +kernel
theorem dX3_isBetween_33 : decode cX3_isBetween 33 = .ok (.iload_n 2, 1) := by decide +kernel
theorem dX3_isBetween_34 : decode cX3_isBetween 34 = .ok (.iaload, 1) := by decide +kernel
theorem dX3_isBetween_35 : decode cX3_isBetween 35 = .ok (.goto 9, 3) := by decide +kernel
theorem dX3_isBetween_38 : decode cX3_isBetween 38 = .ok (.aload_n 0, 1) := by decide +kernel
theorem dX3_isBetween_39 : decode cX3_isBetween 39 = .ok (.getfield 7, 3) := by decide +kernel
theorem dX3_isBetween_42 : decode cX3_isBetween 42 = .ok (.iload_n 3, 1) := by decide +kernel
theorem dX3_isBetween_43 : decode cX3_isBetween 43 = .ok (.iaload, 1) := by decide +kernel
theorem dX3_isBetween_44 : decode cX3_isBetween 44 = .ok (.istore 4, 2) := by decide +kernel
theorem dX3_isBetween_46 : decode cX3_isBetween 46 = .ok (.aload_n 0, 1) := by decide +kernel
theorem dX3_isBetween_47 : decode cX3_isBetween 47 = .ok (.getfield 7, 3) := by decide +kernel
theorem dX3_isBetween_50 : decode cX3_isBetween 50 = .ok (.iload_n 2, 1) := by decide +kernel
theorem dX3_isBetween_51 : decode cX3_isBetween 51 = .ok (.iaload, 1) := by decide +kernel
theorem dX3_isBetween_52 : decode cX3_isBetween 52 = .ok (.aload_n 0, 1) := by decide +kernel
theorem dX3_isBetween_53 : decode cX3_isBetween 53 = .ok (.getfield 7, 3) := by decide +kernel
theorem dX3_isBetween_56 : decode cX3_isBetween 56 = .ok (.iload_n 3, 1) := by decide +kernel
theorem dX3_isBetween_57 : decode cX3_isBetween 57 = .ok (.iaload, 1) := by decide +kernel
theorem dX3_isBetween_58 : decode cX3_isBetween 58 = .ok (.if_icmp .ge 12, 3) := by decide +kernel
theorem dX3_isBetween_61 : decode cX3_isBetween 61 = .ok (.aload_n 0, 1) := by decide +kernel
theorem dX3_isBetween_62 : decode cX3_isBetween 62 = .ok (.getfield 7, 3) := by decide +kernel
theorem dX3_isBetween_65 : decode cX3_isBetween 65 = .ok (.iload_n 3, 1) := by decide +kernel
theorem dX3_isBetween_66 : decode cX3_isBetween 66 = .ok (.iaload, 1) := by decide +kernel
theorem dX3_isBetween_67 : decode cX3_isBetween 67 = .ok (.goto 9, 3) := by decide +kernel
theorem dX3_isBetween_70 : decode cX3_isBetween 70 = .ok (.aload_n 0, 1) := by decide +kernel
theorem dX3_isBetween_71 : decode cX3_isBetween 71 = .ok (.getfield 7, 3) := by decide +kernel
theorem dX3_isBetween_74 : decode cX3_isBetween 74 = .ok (.iload_n 2, 1) := by decide +kernel
theorem dX3_isBetween_75 : decode cX3_isBetween 75 = .ok (.iaload, 1) := by decide +kernel
theorem dX3_isBetween_76 : decode cX3_isBetween 76 = .ok (.istore 5, 2) := by decide +kernel
theorem dX3_isBetween_78 : decode cX3_isBetween 78 = .ok (.aload_n 0, 1) := by decide +kernel
theorem dX3_isBetween_79 : decode cX3_isBetween 79 = .ok (.getfield 13, 3) := by decide +kernel
theorem dX3_isBetween_82 : decode cX3_isBetween 82 = .ok (.iload_n 2, 1) := by decide +kernel
theorem dX3_isBetween_83 : decode cX3_isBetween 83 = .ok (.iaload, 1) := by decide +kernel
theorem dX3_isBetween_84 : decode cX3_isBetween 84 = .ok (.aload_n 0, 1) := by decide +kernel
theorem dX3_isBetween_85 : decode cX3_isBetween 85 = .ok (.getfield 13, 3) := by decide +kernel
theorem dX3_isBetween_88 : decode cX3_isBetween 88 = .ok (.iload_n 3, 1) := by decide +kernel
theorem dX3_isBetween_89 : decode cX3_isBetween 89 = .ok (.iaload, 1) := by decide +kernel
theorem dX3_isBetween_90 : decode cX3_isBetween 90 = .ok (.if_icmp .ge 12, 3) := by decide +kernel
theorem dX3_isBetween_93 : decode cX3_isBetween 93 = .ok (.aload_n 0, 1) := by decide +kernel
theorem dX3_isBetween_94 : decode cX3_isBetween 94 = .ok (.getfield 13, 3) := by decide +kernel
theorem dX3_isBetween_97 : decode cX3_isBetween 97 = .ok (.iload_n 2, 1) := by decide +kernel
theorem dX3_isBetween_98 : decode cX3_isBetween 98 = .ok (.iaload, 1) := by decide +kernel
theorem dX3_isBetween_99 : decode cX3_isBetween 99 = .ok (.goto 9, 3) := by decide +kernel
theorem dX3_isBetween_102 : decode cX3_isBetween 102 = .ok (.aload_n 0, 1) := by decide +kernel
theorem dX3_isBetween_103 : decode cX3_isBetween 103 = .ok (.getfield 13, 3) := by decide +kernel
theorem dX3_isBetween_106 : decode cX3_isBetween 106 = .ok (.iload_n 3, 1) := by decide +kernel
theorem dX3_isBetween_107 : decode cX3_isBetween 107 = .ok (.iaload, 1) := by decide +kernel
theorem dX3_isBetween_108 : decode cX3_isBetween 108 = .ok (.istore 6, 2) := by decide +kernel
theorem dX3_isBetween_110 : decode cX3_isBetween 110 = .ok (.aload_n 0, 1) := by decide +kernel
theorem dX3_isBetween_111 : decode cX3_isBetween 111 = .ok (.getfield 13, 3) := by decide +kernel
theorem dX3_isBetween_114 : decode cX3_isBetween 114 = .ok (.iload_n 2, 1) := by decide +kernel
theorem dX3_isBetween_115 : decode cX3_isBetween 115 = .ok (.iaload, 1) := by decide +kernel
theorem dX3_isBetween_116 : decode cX3_isBetween 116 = .ok (.aload_n 0, 1) := by decide +kernel
theorem dX3_isBetween_117 : decode cX3_isBetween 117 = .ok (.getfield 13, 3) := by decide +kernel
theorem dX3_isBetween_120 : decode cX3_isBetween 120 = .ok (.iload_n 3, 1) := by decide +kernel
theorem dX3_isBetween_121 : decode cX3_isBetween 121 = .ok (.iaload, 1) := by decide +kernel
theorem dX3_isBetween_122 : decode cX3_isBetween 122 = .ok (.if_icmp .ge 12, 3) := by decide +kernel
theorem dX3_isBetween_125 : decode cX3_isBetween 125 = .ok (.aload_n 0, 1) := by decide +kernel
theorem dX3_isBetween_126 : decode cX3_isBetween 126 = .ok (.getfield 13, 3) := by decide +kernel
theorem dX3_isBetween_129 : decode cX3_isBetween 129 = .ok (.iload_n 3, 1) := by decide +kernel
theorem dX3_isBetween_130 : decode cX3_isBetween 130 = .ok (.iaload, 1) := by decide +kernel
theorem dX3_isBetween_131 : decode cX3_isBetween 131 = .ok (.goto 9, 3) := by decide +kernel
theorem dX3_isBetween_134 : decode cX3_isBetween 134 = .ok (.aload_n 0, 1) := by decide +kernel
theorem dX3_isBetween_135 : decode cX3_isBetween 135 = .ok (.getfield 13, 3) := by decide +kernel
theorem dX3_isBetween_138 : decode cX3_isBetween 138 = .ok (.iload_n 2, 1) := by decide +kernel
theorem dX3_isBetween_139 : decode cX3_isBetween 139 = .ok (.iaload, 1) := by decide +kernel
theorem dX3_isBetween_140 : decode cX3_isBetween 140 = .ok (.istore 7, 2) := by decide +kernel
theorem dX3_isBetween_142 : decode cX3_isBetween 142 = .ok (.aload_n 0, 1) := by decide +kernel
theorem dX3_isBetween_143 : decode cX3_isBetween 143 = .ok (.getfield 7, 3) := by decide +kernel
theorem dX3_isBetween_146 : decode cX3_isBetween 146 = .ok (.iload_n 1, 1) := by decide +kernel
theorem dX3_isBetween_147 : decode cX3_isBetween 147 = .ok (.iaload, 1) := by decide +kernel
theorem dX3_isBetween_148 : decode cX3_isBetween 148 = .ok (.iload 4, 2) := by decide +kernel
theorem dX3_isBetween_150 : decode cX3_isBetween 150 = .ok (.if_icmp .lt 40, 3) := by decide +kernel
theorem dX3_isBetween_153 : decode cX3_isBetween 153 = .ok (.aload_n 0, 1) := by decide +kernel
theorem dX3_isBetween_154 : decode cX3_isBetween 154 = .ok (.getfield 7, 3) := by decide +kernel
theorem dX3_isBetween_157 : decode cX3_isBetween 157 = .ok (.iload_n 1, 1) := by decide +kernel
theorem dX3_isBetween_158 : decode cX3_isBetween 158 = .ok (.iaload, 1) := by decide +kernel
theorem dX3_isBetween_159 : decode cX3_isBetween 159 = .ok (.iload 5, 2) := by decide +kernel
theorem dX3_isBetween_161 : decode cX3_isBetween 161 = .ok (.if_icmp .gt 29, 3) := by decide +kernel
theorem dX3_isBetween_164 : decode cX3_isBetween 164 = .ok (.aload_n 0, 1) := by decide +kernel
theorem dX3_isBetween_165 : decode cX3_isBetween 165 = .ok (.getfield 13, 3) := by decide +kernel
theorem dX3_isBetween_168 : decode cX3_isBetween 168 = .ok (.iload_n 1, 1) := by decide +kernel
theorem dX3_isBetween_169 : decode cX3_isBetween 169 = .ok (.iaload, 1) := by decide +kernel
theorem dX3_isBetween_170 : decode cX3_isBetween 170 = .ok (.iload 6, 2) := by decide +kernel
theorem dX3_isBetween_172 : decode cX3_isBetween 172 = .ok (.if_icmp .lt 18, 3) := by decide +kernel
theorem dX3_isBetween_175 : decode cX3_isBetween 175 = .ok (.aload_n 0, 1) := by decide +kernel
theorem dX3_isBetween_176 : decode cX3_isBetween 176 = .ok (.getfield 13, 3) := by decide +kernel
theorem dX3_isBetween_179 : decode cX3_isBetween 179 = .ok (.iload_n 1, 1) := by decide +kernel
theorem dX3_isBetween_180 : decode cX3_isBetween 180 = .ok (.iaload, 1) := by decide +kernel
theorem dX3_isBetween_181 : decode cX3_isBetween 181 = .ok (.iload 7, 2) := by decide +kernel
theorem dX3_isBetween_183 : decode cX3_isBetween 183 = .ok (.if_icmp .gt 7, 3) := by decide +kernel
theorem dX3_isBetween_186 : decode cX3_isBetween 186 = .ok (.iconst 1, 1) := by decide +kernel
theorem dX3_isBetween_187 : decode cX3_isBetween 187 = .ok (.goto 4, 3) := by decide +kernel
theorem dX3_isBetween_190 : decode cX3_isBetween 190 = .ok (.iconst 0, 1) := by decide +kernel
theorem dX3_isBetween_191 : decode cX3_isBetween 191 = .ok (.ireturn, 1) := by decide +kernel
set_option maxRecDepth 20000 in
theorem ggX3_isOdd_X3_isBetween : GoodIn wsX3_isOdd wsX3_isBetween := goodIn_r _ [5, 6, 7, 8, 9, 10, 4, 11, 12, 13, 14, 18, 19, 20, 21, 22, 23, 24, 25, 26, 27, 28] (by decide +kernel) (by decide +kernel)
set_option maxRecDepth 20000 in
theorem gX3_isOdd_X3_isBetween : GoodIn wsX3_isOdd (wsV RX3 62 RX3 yX3_isBetween wsX3_isBetween) := goodIn_app (goodIn_of _ (by decide +kernel)) ggX3_isOdd_X3_isBetween
set_option maxRecDepth 20000 in
theorem ggX3_isOdd_X3_turnOfPoints : GoodIn wsX3_isOdd wsX3_turnOfPoints := goodIn_r _ [11, 6, 7, 12, 13, 4, 14, 18, 19, 20, 21, 22, 23, 24, 25, 26, 27, 28] (by decide +kernel) (by decide +kernel)
set_option maxRecDepth 20000 in
theorem gX3_isOdd_X3_turnOfPoints : GoodIn wsX3_isOdd (wsV RX3 54 RX3 yX3_turnOfPoints wsX3_turnOfPoints) := goodIn_app (goodIn_of _ (by decide +kernel)) ggX3_isOdd_X3_turnOfPoints
set_option maxRecDepth 20000 in
theorem ggX3_isOdd_X3_sign : GoodIn wsX3_isOdd wsX3_sign := goodIn_r _ [17] (by decide +kernel) (by decide +kernel)
set_option maxRecDepth 20000 in
theorem gX3_isOdd_X3_sign : GoodIn wsX3_isOdd (va_wsS RX3 66 yX3_sign wsX3_sign) := goodIn_app (goodIn_of _ (by decide +kernel)) ggX3_isOdd_X3_sign
theorem dX3_isOdd_0 : decode cX3_isOdd 0 = .ok (.iload_n 1, 1) := by decide +kernel
theorem dX3_isOdd_1 : decode cX3_isOdd 1 = .ok (.iload_n 3, 1) := by decide +kernel
theorem dX3_isOdd_2 : decode cX3_isOdd 2 = .ok (.if_icmp .ne 9, 3) := by decide +kernel
theorem dX3_isOdd_5 : decode cX3_isOdd 5 = .ok (.iload_n 2, 1) := by decide +kernel
theorem dX3_isOdd_6 : decode cX3_isOdd 6 = .ok (.iload 4, 2) := by decide +kernel
theorem dX3_isOdd_8 : decode cX3_isOdd 8 = .ok (.if_icmp .eq 14, 3) := by decide +kernel
theorem dX3_isOdd_11 : decode cX3_isOdd 11 = .ok (.iload_n 1, 1) := by decide +kernel
theorem dX3_isOdd_12 : decode cX3_isOdd 12 = .ok (.iload 4, 2) := by decide +kernel
theorem dX3_isOdd_14 : decode cX3_isOdd 14 = .ok (.if_icmp .ne 10, 3) := by decide +kernel
theorem dX3_isOdd_17 : decode cX3_isOdd 17 = .ok (.iload_n 2, 1) := by decide +kernel
theorem dX3_isOdd_18 : decode cX3_isOdd 18 = .ok (.iload_n 3, 1) := by decide +kernel
theorem dX3_isOdd_19 : decode cX3_isOdd 19 = .ok (.if_icmp .ne 5, 3) := by decide +kernel
theorem dX3_isOdd_22 : decode cX3_isOdd 22 = .ok (.iconst 0, 1) := by decide +kernel
theorem dX3_isOdd_23 : decode cX3_isOdd 23 = .ok (.ireturn, 1) := by decide +kernel
theorem dX3_isOdd_24 : decode cX3_isOdd 24 = .ok (.iload_n 1, 1) := by decide +kernel
theorem dX3_isOdd_25 : decode cX3_isOdd 25 = .ok (.iload_n 3, 1) := by decide +kernel
theorem dX3_isOdd_26 : decode cX3_isOdd 26 = .ok (.if_icmp .eq 24, 3) := by decide +kernel
theorem dX3_isOdd_29 : decode cX3_isOdd 29 = .ok (.iload_n 1, 1) := by decide +kernel
theorem dX3_isOdd_30 : decode cX3_isOdd 30 = .ok (.iload 4, 2) := by decide +kernel
theorem dX3_isOdd_32 : decode cX3_isOdd 32 = .ok (.if_icmp .eq 18, 3) := by decide +kernel
theorem dX3_isOdd_35 : decode cX3_isOdd 35 = .ok (.iload_n 2, 1) := by decide +kernel
theorem dX3_isOdd_36 : decode cX3_isOdd 36 = .ok (.iload_n 3, 1) := by decide +kernel
theorem dX3_isOdd_37 : decode cX3_isOdd 37 = .ok (.if_icmp .eq 13, 3) := by decide +kernel
theorem dX3_isOdd_40 : decode cX3_isOdd 40 = .ok (.iload_n 2, 1) := by decide +kernel
theorem dX3_isOdd_41 : decode cX3_isOdd 41 = .ok (.iload 4, 2) := by decide +kernel
theorem dX3_isOdd_43 : decode cX3_isOdd 43 = .ok (.if_icmp .eq 7, 3) := by decide +kernel
theorem dX3_isOdd_46 : decode cX3_isOdd 46 = .ok (.iconst 1, 1) := by decide +kernel
theorem dX3_isOdd_47 : decode cX3_isOdd 47 = .ok (.goto 4, 3) := by decide +kernel
theorem dX3_isOdd_50 : decode cX3_isOdd 50 = .ok (.iconst 0, 1) := by decide +kernel
theorem dX3_isOdd_51 : decode cX3_isOdd 51 = .ok (.istore 5, 2) := by decide +kernel
theorem dX3_isOdd_53 : decode cX3_isOdd 53 = .ok (.iload_n 1, 1) := by decide +kernel
theorem dX3_isOdd_54 : decode cX3_isOdd 54 = .ok (.iload_n 3, 1) := by decide +kernel
theorem dX3_isOdd_55 : decode cX3_isOdd 55 = .ok (.if_icmp .eq 20, 3) := by decide +kernel
theorem dX3_isOdd_58 : decode cX3_isOdd 58 = .ok (.iload_n 1, 1) := by decide +kernel
theorem dX3_isOdd_59 : decode cX3_isOdd 59 = .ok (.iload 4, 2) := by decide +kernel
theorem dX3_isOdd_61 : decode cX3_isOdd 61 = .ok (.if_icmp .eq 14, 3) := by decide +kernel
theorem dX3_isOdd_64 : decode cX3_isOdd 64 = .ok (.aload_n 0, 1) := by decide +kernel
theorem dX3_isOdd_65 : decode cX3_isOdd 65 = .ok (.iload_n 1, 1) := by decide +kernel
theorem dX3_isOdd_66 : decode cX3_isOdd 66 = .ok (.iload_n 3, 1) := by decide +kernel
theorem dX3_isOdd_67 : decode cX3_isOdd 67 = .ok (.iload 4, 2) := by decide +kernel
theorem dX3_isOdd_69 : decode cX3_isOdd 69 = .ok (.invokevirtual 62, 3) := by decide +kernel
theorem dX3_isOdd_72 : decode cX3_isOdd 72 = .ok (.ifCond .ne 68, 3) := by decide +kernel
theorem dX3_isOdd_75 : decode cX3_isOdd 75 = .ok (.iload_n 2, 1) := by decide +kernel
theorem dX3_isOdd_76 : decode cX3_isOdd 76 = .ok (.iload_n 3, 1) := by decide +kernel
theorem dX3_isOdd_77 : decode cX3_isOdd 77 = .ok (.if_icmp .eq 20, 3) := by decide +kernel
theorem dX3_isOdd_80 : decode cX3_isOdd 80 = .ok (.iload_n 2, 1) := by decide +kernel
theorem dX3_isOdd_81 : decode cX3_isOdd 81 = .ok (.iload 4, 2) := by decide +kernel
theorem dX3_isOdd_83 : decode cX3_isOdd 83 = .ok (.if_icmp .eq 14, 3) := by decide +kernel
theorem dX3_isOdd_86 : decode cX3_isOdd 86 = .ok (.aload_n 0, 1) := by decide +kernel
theorem dX3_isOdd_87 : decode cX3_isOdd 87 = .ok (.iload_n 2, 1) := by decide +kernel
theorem dX3_isOdd_88 : decode cX3_isOdd 88 = .ok (.iload_n 3, 1) := by decide +kernel
theorem dX3_isOdd_89 : decode cX3_isOdd 89 = .ok (.iload 4, 2) := by decide +kernel
theorem dX3_isOdd_91 : decode cX3_isOdd 91 = .ok (.invokevirtual 62, 3) := by decide +kernel
theorem dX3_isOdd_94 : decode cX3_isOdd 94 = .ok (.ifCond .ne 46, 3) := by decide +kernel
theorem dX3_isOdd_97 : decode cX3_isOdd 97 = .ok (.iload_n 3, 1) := by decide +kernel
theorem dX3_isOdd_98 : decode cX3_isOdd 98 = .ok (.iload_n 1, 1) := by decide +kernel
theorem dX3_isOdd_99 : decode cX3_isOdd 99 = .ok (.if_icmp .eq 18, 3) := by decide +kernel
theorem dX3_isOdd_102 : decode cX3_isOdd 102 = .ok (.iload_n 3, 1) := by decide +kernel
theorem dX3_isOdd_103 : decode cX3_isOdd 103 = .ok (.iload_n 2, 1) := by decide +kernel
theorem dX3_isOdd_104 : decode cX3_isOdd 104 = .ok (.if_icmp .eq 13, 3) := by decide +kernel
theorem dX3_isOdd_107 : decode cX3_isOdd 107 = .ok (.aload_n 0, 1) := by decide +kernel
theorem dX3_isOdd_108 : decode cX3_isOdd 108 = .ok (.iload_n 3, 1) := by decide +kernel
theorem dX3_isOdd_109 : decode cX3_isOdd 109 = .ok (.iload_n 1, 1) := by decide +kernel
theorem dX3_isOdd_110 : decode cX3_isOdd 110 = .ok (.iload_n 2, 1) := by decide +kernel
theorem dX3_isOdd_111 : decode cX3_isOdd 111 = .ok (.invokevirtual 62, 3) := by decide +kernel
theorem dX3_isOdd_114 : decode cX3_isOdd 114 = .ok (.ifCond .ne 26, 3) := by decide +kernel
theorem dX3_isOdd_117 : decode cX3_isOdd 117 = .ok (.iload 4, 2) := by decide +kernel
theorem dX3_isOdd_119 : decode cX3_isOdd 119 = .ok (.iload_n 1, 1) := by decide +kernel
theorem dX3_isOdd_120 : decode cX3_isOdd 120 = .ok (.if_icmp .eq 22, 3) := by decide +kernel
theorem dX3_isOdd_123 : decode cX3_isOdd 123 = .ok (.iload 4, 2) := by decide +kernel
theorem dX3_isOdd_125 : decode cX3_isOdd 125 = .ok (.iload_n 2, 1) := by decide +kernel
theorem dX3_isOdd_126 : decode cX3_isOdd 126 = .ok (.if_icmp .eq 16, 3) := by decide +kernel
theorem dX3_isOdd_129 : decode cX3_isOdd 129 = .ok (.aload_n 0, 1) := by decide +kernel
theorem dX3_isOdd_130 : decode cX3_isOdd 130 = .ok (.iload 4, 2) := by decide +kernel
theorem dX3_isOdd_132 : decode cX3_isOdd 132 = .ok (.iload_n 1, 1) := by decide +kernel
theorem dX3_isOdd_133 : decode cX3_isOdd 133 = .ok (.iload_n 2, 1) := by decide +kernel
theorem dX3_isOdd_134 : decode cX3_isOdd 134 = .ok (.invokevirtual 62, 3) := by decide +kernel
theorem dX3_isOdd_137 : decode cX3_isOdd 137 = .ok (.ifCond .eq 5, 3) := by decide +kernel
theorem dX3_isOdd_140 : decode cX3_isOdd 140 = .ok (.iconst 1, 1) := by decide +kernel
theorem dX3_isOdd_141 : decode cX3_isOdd 141 = .ok (.ireturn, 1) := by decide +kernel
theorem dX3_isOdd_142 : decode cX3_isOdd 142 = .ok (.iload 5, 2) := by decide +kernel
theorem dX3_isOdd_144 : decode cX3_isOdd 144 = .ok (.ifCond .eq 58, 3) := by decide +kernel
theorem dX3_isOdd_147 : decode cX3_isOdd 147 = .ok (.aload_n 0, 1) := by decide +kernel
theorem dX3_isOdd_148 : decode cX3_isOdd 148 = .ok (.iload_n 1, 1) := by decide +kernel
