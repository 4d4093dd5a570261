set_option maxRecDepth 20000 in
theorem ggL_point_X2_point : GoodIn wsL_point wsX2_point := goodIn_ca (goodIn_ca (goodIn_r _ [7, 8, 9, 10, 11, 12, 13, 14, 6, 15, 16, 17, 18, 19, 20, 21, 22, 23, 24, 25, 26, 27, 28, 29, 30, 31, 32, 33, 34, 35, 36, 37, 38, 39, 40, 41, 42, 43, 44] (by decide +kernel) (by decide +kernel)) (goodIn_sub (fun _ h => List.mem_cons_of_mem _ (List.mem_append_left _ (List.mem_append_right _ h))) (by decide +kernel))) (goodIn_sub (fun _ h => List.mem_cons_of_mem _ (List.mem_append_right _ h)) (by decide +kernel))
set_option maxRecDepth 20000 in
theorem gL_point_X2_point : GoodIn wsL_point (wsV RL 7 RX2 yX2_point wsX2_point) := goodIn_app (goodIn_of _ (by decide +kernel)) ggL_point_X2_point
theorem dL_point_0 : decode cL_point 0 = .ok (.aload_n 3, 1) := by decide +kernel
theorem dL_point_1 : decode cL_point 1 = .ok (.iconst 0, 1) := by decide +kernel
theorem dL_point_2 : decode cL_point 2 = .ok (.aload_n 0, 1) := by decide +kernel
theorem dL_point_3 : decode cL_point 3 = .ok (.iload_n 1, 1) := by decide +kernel
theorem dL_point_4 : decode cL_point 4 = .ok (.iload_n 2, 1) := by decide +kernel
theorem dL_point_5 : decode cL_point 5 = .ok (.invokevirtual 7, 3) := by decide +kernel
theorem dL_point_8 : decode cL_point 8 = .ok (.i2l, 1) := by decide +kernel
theorem dL_point_9 : decode cL_point 9 = .ok (.lastore, 1) := by decide +kernel
theorem dL_point_10 : decode cL_point 10 = .ok (.goto 11, 3) := by decide +kernel
theorem dL_point_13 : decode cL_point 13 = .ok (.astore 4, 2) := by decide +kernel
theorem dL_point_15 : decode cL_point 15 = .ok (.iconst 1, 1) := by decide +kernel
theorem dL_point_16 : decode cL_point 16 = .ok (.ireturn, 1) := by decide +kernel
theorem dL_point_17 : decode cL_point 17 = .ok (.astore 4, 2) := by decide +kernel
theorem dL_point_19 : decode cL_point 19 = .ok (.iconst 2, 1) := by decide +kernel
theorem dL_point_20 : decode cL_point 20 = .ok (.ireturn, 1) := by decide +kernel
theorem dL_point_21 : decode cL_point 21 = .ok (.iconst 0, 1) := by decide +kernel
theorem dL_point_22 : decode cL_point 22 = .ok (.ireturn, 1) := by decide +kernel
set_option maxRecDepth 20000 in
theorem ggL_move_X2_move : GoodIn wsL_move wsX2_move := goodIn_ca (goodIn_ca (goodIn_ca (goodIn_r _ [8, 9, 10, 11, 12, 13, 14, 15, 16, 17, 18, 19, 20, 21, 22, 23, 7, 24, 25, 26, 27, 28, 29, 30, 31, 32, 33, 34, 35, 36, 37, 38, 39, 40, 41, 42, 43] (by decide +kernel) (by decide +kernel)) (goodIn_sub (fun _ h => List.mem_cons_of_mem _ (List.mem_append_left _ (List.mem_append_left _ (List.mem_append_right _ h)))) (by decide +kernel))) (goodIn_sub (fun _ h => List.mem_cons_of_mem _ (List.mem_append_left _ (List.mem_append_right _ h))) (by decide +kernel))) (goodIn_sub (fun _ h => List.mem_cons_of_mem _ (List.mem_append_right _ h)) (by decide +kernel))
set_option maxRecDepth 20000 in
theorem gL_move_X2_move : GoodIn wsL_move (wsV RL 17 RX2 yX2_move wsX2_move) := goodIn_app (goodIn_of _ (by decide +kernel)) ggL_move_X2_move
theorem dL_move_0 : decode cL_move 0 = .ok (.aload_n 0, 1) := by decide +kernel
theorem dL_move_1 : decode cL_move 1 = .ok (.iload_n 1, 1) := by decide +kernel
theorem dL_move_2 : decode cL_move 2 = .ok (.iload_n 2, 1) := by decide +kernel
theorem dL_move_3 : decode cL_move 3 = .ok (.iload_n 3, 1) := by decide +kernel
theorem dL_move_4 : decode cL_move 4 = .ok (.invokevirtual 17, 3) := by decide +kernel
theorem dL_move_7 : decode cL_move 7 = .ok (.goto 15, 3) := by decide +kernel
theorem dL_move_10 : decode cL_move 10 = .ok (.astore 4, 2) := by decide +kernel
theorem dL_move_12 : decode cL_move 12 = .ok (.iconst 1, 1) := by decide +kernel
theorem dL_move_13 : decode cL_move 13 = .ok (.ireturn, 1) := by decide +kernel
theorem dL_move_14 : decode cL_move 14 = .ok (.astore 4, 2) := by decide +kernel
theorem dL_move_16 : decode cL_move 16 = .ok (.iconst 2, 1) := by decide +kernel
theorem dL_move_17 : decode cL_move 17 = .ok (.ireturn, 1) := by decide +kernel
theorem dL_move_18 : decode cL_move 18 = .ok (.astore 4, 2) := by decide +kernel
theorem dL_move_20 : decode cL_move 20 = .ok (.iconst 3, 1) := by decide +kernel
theorem dL_move_21 : decode cL_move 21 = .ok (.ireturn, 1) := by decide +kernel
theorem dL_move_22 : decode cL_move 22 = .ok (.iconst 0, 1) := by decide +kernel
theorem dL_move_23 : decode cL_move 23 = .ok (.ireturn, 1) := by decide +kernel
set_option maxRecDepth 20000 in
theorem ggL_triangle_X2_triangle : GoodIn wsL_triangle wsX2_triangle := goodIn_ca (goodIn_ca (goodIn_ca (goodIn_r _ [8, 9, 10, 11, 12, 13, 14, 15, 16, 17, 18, 19, 20, 21, 22, 23, 24, 25, 26, 27, 28, 29, 30, 31, 32, 33, 34, 35, 36, 37, 38, 39, 40, 41, 42, 43, 44, 45, 46, 47, 48, 49, 50, 51, 52] (by decide +kernel) (by decide +kernel)) (goodIn_sub (fun _ h => List.mem_cons_of_mem _ (List.mem_append_left _ (List.mem_append_left _ (List.mem_append_right _ h)))) (by decide +kernel))) (goodIn_sub (fun _ h => List.mem_cons_of_mem _ (List.mem_append_left _ (List.mem_append_right _ h))) (by decide +kernel))) (goodIn_sub (fun _ h => List.mem_cons_of_mem _ (List.mem_append_right _ h)) (by decide +kernel))
set_option maxRecDepth 20000 in
theorem gL_triangle_X2_triangle : GoodIn wsL_triangle (wsV RL 23 RX2 yX2_triangle wsX2_triangle) := goodIn_app (goodIn_of _ (by decide +kernel)) ggL_triangle_X2_triangle
theorem dL_triangle_0 : decode cL_triangle 0 = .ok (.aload 4, 2) := by decide +kernel
theorem dL_triangle_2 : decode cL_triangle 2 = .ok (.iconst 0, 1) := by decide +kernel
theorem dL_triangle_3 : decode cL_triangle 3 = .ok (.aload_n 0, 1) := by decide +kernel
theorem dL_triangle_4 : decode cL_triangle 4 = .ok (.iload_n 1, 1) := by decide +kernel
theorem dL_triangle_5 : decode cL_triangle 5 = .ok (.iload_n 2, 1) := by decide +kernel
theorem dL_triangle_6 : decode cL_triangle 6 = .ok (.iload_n 3, 1) := by decide +kernel
theorem dL_triangle_7 : decode cL_triangle 7 = .ok (.invokevirtual 23, 3) := by decide +kernel
theorem dL_triangle_10 : decode cL_triangle 10 = .ok (.i2l, 1) := by decide +kernel
theorem dL_triangle_11 : decode cL_triangle 11 = .ok (.lastore, 1) := by decide +kernel
theorem dL_triangle_12 : decode cL_triangle 12 = .ok (.goto 15, 3) := by decide +kernel
theorem dL_triangle_15 : decode cL_triangle 15 = .ok (.astore 5, 2) := by decide +kernel
theorem dL_triangle_17 : decode cL_triangle 17 = .ok (.iconst 1, 1) := by decide +kernel
theorem dL_triangle_18 : decode cL_triangle 18 = .ok (.ireturn, 1) := by decide +kernel
theorem dL_triangle_19 : decode cL_triangle 19 = .ok (.astore 5, 2) := by decide +kernel
theorem dL_triangle_21 : decode cL_triangle 21 = .ok (.iconst 2, 1) := by decide +kernel
theorem dL_triangle_22 : decode cL_triangle 22 = .ok (.ireturn, 1) := by decide +kernel
theorem dL_triangle_23 : decode cL_triangle 23 = .ok (.astore 5, 2) := by decide +kernel
theorem dL_triangle_25 : decode cL_triangle 25 = .ok (.iconst 3, 1) := by decide +kernel
theorem dL_triangle_26 : decode cL_triangle 26 = .ok (.ireturn, 1) := by decide +kernel
theorem dL_triangle_27 : decode cL_triangle 27 = .ok (.iconst 0, 1) := by decide +kernel
theorem dL_triangle_28 : decode cL_triangle 28 = .ok (.ireturn, 1) := by decide +kernel
set_option maxRecDepth 20000 in
theorem ggL_take_X2_take : GoodIn wsL_take wsX2_take := goodIn_ca (goodIn_r _ [6, 7, 8, 9, 10, 11, 12, 13, 14, 15, 16, 17, 18, 19, 20, 21, 22, 23, 24, 25, 26, 27, 28, 29, 30] (by decide +kernel) (by decide +kernel)) (goodIn_sub (fun _ h => List.mem_cons_of_mem _ (List.mem_append_right _ h)) (by decide +kernel))
set_option maxRecDepth 20000 in
theorem gL_take_X2_take : GoodIn wsL_take (wsV RL 27 RX2 yX2_take wsX2_take) := goodIn_app (goodIn_of _ (by decide +kernel)) ggL_take_X2_take
theorem dL_take_0 : decode cL_take 0 = .ok (.aload_n 0, 1) := by decide +kernel
theorem dL_take_1 : decode cL_take 1 = .ok (.iload_n 1, 1) := by decide +kernel
theorem dL_take_2 : decode cL_take 2 = .ok (.invokevirtual 27, 3) := by decide +kernel
theorem dL_take_5 : decode cL_take 5 = .ok (.goto 6, 3) := by decide +kernel
theorem dL_take_8 : decode cL_take 8 = .ok (.astore_n 2, 1) := by decide +kernel
theorem dL_take_9 : decode cL_take 9 = .ok (.iconst 1, 1) := by decide +kernel
theorem dL_take_10 : decode cL_take 10 = .ok (.ireturn, 1) := by decide +kernel
theorem dL_take_11 : decode cL_take 11 = .ok (.iconst 0, 1) := by decide +kernel
theorem dL_take_12 : decode cL_take 12 = .ok (.ireturn, 1) := by decide +kernel
set_option maxRecDepth 20000 in
theorem ggL_part_X2_part : GoodIn wsL_part wsX2_part := goodIn_ca (goodIn_ca (goodIn_ca (goodIn_r _ [8, 9, 10, 11, 12, 13, 14, 15, 16, 17, 18, 19, 20, 21, 22, 23, 24, 25, 7, 26, 27, 28, 29, 30, 31, 32, 33, 34, 35, 36, 37, 38, 39, 40, 41, 42, 43, 44, 45, 46, 47, 48, 49, 50, 51, 52, 53, 54, 55, 56, 57, 58, 59, 60, 61, 62, 63, 64, 65, 66, 67, 68, 69, 70, 71, 72, 73, 74, 75, 76, 77, 78, 79, 80, 81, 82, 83, 84, 85, 86, 87, 88, 89, 90] (by decide +kernel) (by decide +kernel)) (goodIn_sub (fun _ h => List.mem_cons_of_mem _ (List.mem_append_left _ (List.mem_append_left _ (List.mem_append_right _ h)))) (by decide +kernel))) (goodIn_sub (fun _ h => List.mem_cons_of_mem _ (List.mem_append_left _ (List.mem_append_right _ h))) (by decide +kernel))) (goodIn_sub (fun _ h => List.mem_cons_of_mem _ (List.mem_append_right _ h)) (by decide +kernel))
set_option maxRecDepth 20000 in
theorem gL_part_X2_part : GoodIn wsL_part (wsV RL 31 RX2 yX2_part wsX2_part) := goodIn_app (goodIn_of _ (by decide +kernel)) ggL_part_X2_part
theorem dL_part_0 : decode cL_part 0 = .ok (.aload 4, 2) := by decide +kernel
theorem dL_part_2 : decode cL_part 2 = .ok (.iconst 0, 1) := by decide +kernel
theorem dL_part_3 : decode cL_part 3 = .ok (.aload_n 0, 1) := by decide +kernel
theorem dL_part_4 : decode cL_part 4 = .ok (.iload_n 1, 1) := by decide +kernel
theorem dL_part_5 : decode cL_part 5 = .ok (.iload_n 2, 1) := by decide +kernel
theorem dL_part_6 : decode cL_part 6 = .ok (.iload_n 3, 1) := by decide +kernel
theorem dL_part_7 : decode cL_part 7 = .ok (.invokevirtual 31, 3) := by decide +kernel
theorem dL_part_10 : decode cL_part 10 = .ok (.i2l, 1) := by decide +kernel
theorem dL_part_11 : decode cL_part 11 = .ok (.lastore, 1) := by decide +kernel
theorem dL_part_12 : decode cL_part 12 = .ok (.goto 15, 3) := by decide +kernel
theorem dL_part_15 : decode cL_part 15 = .ok (.astore 5, 2) := by decide +kernel
theorem dL_part_17 : decode cL_part 17 = .ok (.iconst 1, 1) := by decide +kernel
theorem dL_part_18 : decode cL_part 18 = .ok (.ireturn, 1) := by decide +kernel
theorem dL_part_19 : decode cL_part 19 = .ok (.astore 5, 2) := by decide +kernel
theorem dL_part_21 : decode cL_part 21 = .ok (.iconst 2, 1) := by decide +kernel
theorem dL_part_22 : decode cL_part 22 = .ok (.ireturn, 1) := by decide +kernel
theorem dL_part_23 : decode cL_part 23 = .ok (.astore 5, 2) := by decide +kernel
theorem dL_part_25 : decode cL_part 25 = .ok (.iconst 3, 1) := by decide +kernel
theorem dL_part_26 : decode cL_part 26 = .ok (.ireturn, 1) := by decide +kernel
theorem dL_part_27 : decode cL_part 27 = .ok (.iconst 0, 1) := by decide +kernel
theorem dL_part_28 : decode cL_part 28 = .ok (.ireturn, 1) := by decide +kernel
set_option maxRecDepth 20000 in
theorem ggL_turn_X2_turn : GoodIn wsL_turn wsX2_turn := goodIn_ca (goodIn_r _ [6, 7, 8, 9, 10, 11, 5, 12, 13, 14, 15, 16, 17, 18, 19, 20, 21, 22, 23, 24, 25, 26, 27, 28, 29, 30, 31, 32, 33, 34, 35, 36, 37, 38, 39, 40, 41, 42, 43, 44, 45, 46, 47, 48, 49, 50, 51, 52, 53, 54, 55, 56, 57, 58, 59, 60, 61, 62, 63, 64, 65, 66, 67, 68, 69, 70, 71] (by decide +kernel) (by decide +kernel)) (goodIn_sub (fun _ h => List.mem_cons_of_mem _ (List.mem_append_right _ h)) (by decide +kernel))
set_option maxRecDepth 20000 in
theorem gL_turn_X2_turn : GoodIn wsL_turn (wsV RL 34 RX2 yX2_turn wsX2_turn) := goodIn_app (goodIn_of _ (by decide +kernel)) ggL_turn_X2_turn
theorem dL_turn_0 : decode cL_turn 0 = .ok (.aload_n 3, 1) := by decide +kernel
theorem dL_turn_1 : decode cL_turn 1 = .ok (.iconst 0, 1) := by decide +kernel
theorem dL_turn_2 : decode cL_turn 2 = .ok (.aload_n 0, 1) := by decide +kernel
theorem dL_turn_3 : decode cL_turn 3 = .ok (.iload_n 1, 1) := by decide +kernel
theorem dL_turn_4 : decode cL_turn 4 = .ok (.iload_n 2, 1) := by decide +kernel
theorem dL_turn_5 : decode cL_turn 5 = .ok (.invokevirtual 34, 3) := by decide +kernel
theorem dL_turn_8 : decode cL_turn 8 = .ok (.ifCond .eq 7, 3) := by decide +kernel
theorem dL_turn_11 : decode cL_turn 11 = .ok (.lconst 1, 1) := by decide +kernel
theorem dL_turn_12 : decode cL_turn 12 = .ok (.goto 4, 3) := by decide +kernel
theorem dL_turn_15 : decode cL_turn 15 = .ok (.lconst 0, 1) := by decide +kernel
theorem dL_turn_16 : decode cL_turn 16 = .ok (.lastore, 1) := by decide +kernel
theorem dL_turn_17 : decode cL_turn 17 = .ok (.goto 7, 3) := by decide +kernel
theorem dL_turn_20 : decode cL_turn 20 = .ok (.astore 4, 2) := by decide +kernel
theorem dL_turn_22 : decode cL_turn 22 = .ok (.iconst 1, 1) := by decide +kernel
theorem dL_turn_23 : decode cL_turn 23 = .ok (.ireturn, 1) := by decide +kernel
theorem dL_turn_24 : decode cL_turn 24 = .ok (.iconst 0, 1) := by decide +kernel
theorem dL_turn_25 : decode cL_turn 25 = .ok (.ireturn, 1) := by decide +kernel
set_option maxRecDepth 20000 in
theorem ggL_improve_X2_improve : GoodIn wsL_improve wsX2_improve := goodIn_ca (goodIn_r _ [6, 7, 8, 9, 10, 11, 5, 12, 13, 14, 15, 16, 17, 18, 19, 20, 21, 22, 23, 24, 25, 26, 27, 28, 29, 30, 31, 32, 33, 34, 35, 36, 37, 38, 39, 40, 41, 42, 43, 44, 45, 46, 47, 48, 49, 50, 51, 52, 53, 54, 55, 56, 57, 58, 59, 60, 61, 62, 63, 64, 65, 66, 67, 68, 69, 70, 71, 72, 73, 74, 75, 76, 77, 78, 79, 80, 81, 82, 83] (by decide +kernel) (by decide +kernel)) (goodIn_sub (fun _ h => List.mem_cons_of_mem _ (List.mem_append_right _ h)) (by decide +kernel))
set_option maxRecDepth 20000 in
theorem gL_improve_X2_improve : GoodIn wsL_improve (wsV RL 38 RX2 yX2_improve wsX2_improve) := goodIn_app (goodIn_of _ (by decide +kernel)) ggL_improve_X2_improve
theorem dL_improve_0 : decode cL_improve 0 = .ok (.aload_n 2, 1) := by decide +kernel
theorem dL_improve_1 : decode cL_improve 1 = .ok (.iconst 0, 1) := by decide +kernel
theorem dL_improve_2 : decode cL_improve 2 = .ok (.aload_n 0, 1) := by decide +kernel
theorem dL_improve_3 : decode cL_improve 3 = .ok (.iload_n 1, 1) := by decide +kernel
theorem dL_improve_4 : decode cL_improve 4 = .ok (.invokevirtual 38, 3) := by decide +kernel
theorem dL_improve_7 : decode cL_improve 7 = .ok (.i2l, 1) := by decide +kernel
theorem dL_improve_8 : decode cL_improve 8 = .ok (.lastore, 1) := by decide +kernel
theorem dL_improve_9 : decode cL_improve 9 = .ok (.goto 6, 3) := by decide +kernel
theorem dL_improve_12 : decode cL_improve 12 = .ok (.astore_n 3, 1) := by decide +kernel
theorem dL_improve_13 : decode cL_improve 13 = .ok (.iconst 1, 1) := by decide +kernel
theorem dL_improve_14 : decode cL_improve 14 = .ok (.ireturn, 1) := by decide +kernel
theorem dL_improve_15 : decode cL_improve 15 = .ok (.iconst 0, 1) := by decide +kernel
theorem dL_improve_16 : decode cL_improve 16 = .ok (.ireturn, 1) := by decide +kernel
set_option maxRecDepth 20000 in
theorem ggL_law_X2_init : GoodIn wsL_law wsX2_init := goodIn_r _ [9, 10, 11, 12, 13, 14, 15, 16, 17, 18, 19, 20, 6, 21, 22, 23, 24, 25, 26, 27, 28, 29, 30, 31, 32, 33, 34, 35, 36, 37, 38, 39, 40, 653, 654, 655, 636, 637, 638, 639, 640, 641, 656, 657, 658, 659] (by decide +kernel) (by decide +kernel)
set_option maxRecDepth 20000 in
theorem gL_law_X2_init : GoodIn wsL_law (wsX2_init) := ggL_law_X2_init
set_option maxRecDepth 20000 in
theorem ggL_law_X3_init : GoodIn wsL_law wsX3_init := goodIn_r _ [43, 44, 11, 12, 22, 45, 46, 47, 48, 49, 50, 51, 52, 642, 643, 644, 645, 646, 647, 648, 649, 650, 651, 652] (by decide +kernel) (by decide +kernel)
set_option maxRecDepth 20000 in
theorem gL_law_X3_init : GoodIn wsL_law (wsX3_init) := ggL_law_X3_init
set_option maxRecDepth 20000 in
theorem ggL_law_L_point : GoodIn wsL_law wsL_point := goodIn_ca (goodIn_ca (goodIn_r _ [56, 57, 58, 59, 60, 61, 2, 62, 63, 64, 65, 66, 16, 67, 68, 69, 70, 71, 72, 15, 73, 32, 74, 75, 76, 77, 30, 31, 78, 79, 80, 81, 82, 83, 84, 85, 636, 637, 638, 639, 640, 641, 653, 654, 655] (by decide +kernel) (by decide +kernel)) (goodIn_sub (fun _ h => List.mem_append_left _ (List.mem_append_left _ (List.mem_append_right _ h))) (by decide +kernel))) (goodIn_sub (fun _ h => List.mem_append_left _ (List.mem_append_right _ h)) (by decide +kernel))
set_option maxRecDepth 20000 in
theorem gL_law_L_point : GoodIn wsL_law (va_wsS RL 46 yL_point wsL_point) := goodIn_app (goodIn_of _ (by decide +kernel)) ggL_law_L_point
set_option maxRecDepth 20000 in
theorem ggL_law_X3_point : GoodIn wsL_law wsX3_point := goodIn_r _ [89, 90, 91, 45, 46, 92, 93, 5, 94, 95, 96, 97, 98, 99, 100, 101, 642, 643, 644, 645, 646, 647, 648, 649, 650, 651, 652] (by decide +kernel) (by decide +kernel)
set_option maxRecDepth 20000 in
theorem gL_law_X3_point : GoodIn wsL_law (wsV RL 51 RX3 yX3_point wsX3_point) := goodIn_app (goodIn_of _ (by decide +kernel)) ggL_law_X3_point
set_option maxRecDepth 20000 in
theorem ggL_law_X3_thrown : GoodIn wsL_law wsX3_thrown := goodIn_r _ [105, 91, 642, 643, 644, 645, 646, 647, 648, 649, 650, 651, 652] (by decide +kernel) (by decide +kernel)
set_option maxRecDepth 20000 in
theorem gL_law_X3_thrown : GoodIn wsL_law (wsV RL 52 RX3 yX3_thrown wsX3_thrown) := goodIn_app (goodIn_of _ (by decide +kernel)) ggL_law_X3_thrown
set_option maxRecDepth 20000 in
theorem ggL_law_L_move : GoodIn wsL_law wsL_move := goodIn_ca (goodIn_ca (goodIn_ca (goodIn_r _ [108, 109, 57, 58, 110, 111, 112, 2, 113, 114, 115, 63, 64, 65, 66, 16, 116, 117, 118, 15, 119, 32, 67, 68, 69, 120, 75, 76, 77, 30, 31, 121, 83, 84, 85, 636, 637, 638, 639, 640, 641, 653, 654, 655] (by decide +kernel) (by decide +kernel)) (goodIn_sub (fun _ h => List.mem_append_right _ h) (by decide +kernel))) (goodIn_sub (fun _ h => List.mem_append_left _ (List.mem_append_left _ (List.mem_append_right _ h))) (by decide +kernel))) (goodIn_sub (fun _ h => List.mem_append_left _ (List.mem_append_right _ h)) (by decide +kernel))
set_option maxRecDepth 20000 in
theorem gL_law_L_move : GoodIn wsL_law (va_wsS RL 56 yL_move wsL_move) := goodIn_app (goodIn_of _ (by decide +kernel)) ggL_law_L_move
set_option maxRecDepth 20000 in
theorem ggL_law_X3_move : GoodIn wsL_law wsX3_move := goodIn_r _ [125, 90, 91, 45, 46, 92, 93, 5, 94, 95, 96, 97, 98, 99, 100, 101, 642, 643, 644, 645, 646, 647, 648, 649, 650, 651, 652] (by decide +kernel) (by decide +kernel)
set_option maxRecDepth 20000 in
theorem gL_law_X3_move : GoodIn wsL_law (wsV RL 59 RX3 yX3_move wsX3_move) := goodIn_app (goodIn_of _ (by decide +kernel)) ggL_law_X3_move
set_option maxRecDepth 20000 in
theorem ggL_law_L_triangle : GoodIn wsL_law wsL_triangle := goodIn_ca (goodIn_ca (goodIn_ca (goodIn_r _ [128, 109, 57, 58, 129, 130, 131, 2, 132, 114, 115, 63, 64, 65, 66, 16, 20, 116, 117, 118, 15, 119, 32, 133, 134, 135, 19, 136, 39, 40, 137, 138, 139, 140, 38, 141, 142, 143, 144, 37, 636, 637, 638, 639, 640, 641, 653, 654, 655, 656, 657, 658, 659] (by decide +kernel) (by decide +kernel)) (goodIn_sub (fun _ h => List.mem_append_right _ h) (by decide +kernel))) (goodIn_sub (fun _ h => List.mem_append_left _ (List.mem_append_left _ (List.mem_append_right _ h))) (by decide +kernel))) (goodIn_sub (fun _ h => List.mem_append_left _ (List.mem_append_right _ h)) (by decide +kernel))
set_option maxRecDepth 20000 in
theorem gL_law_L_triangle : GoodIn wsL_law (va_wsS RL 60 yL_triangle wsL_triangle) := goodIn_app (goodIn_of _ (by decide +kernel)) ggL_law_L_triangle
set_option maxRecDepth 20000 in
theorem ggL_law_X3_triangle : GoodIn wsL_law wsX3_triangle := goodIn_r _ [148, 90, 149, 150, 91, 95, 96, 5, 97, 151, 152, 153, 154, 48, 155, 156, 157, 158, 49, 642, 643, 644, 645, 646, 647, 648, 649, 650, 651, 652] (by decide +kernel) (by decide +kernel)
set_option maxRecDepth 20000 in
theorem gL_law_X3_triangle : GoodIn wsL_law (wsV RL 63 RX3 yX3_triangle wsX3_triangle) := goodIn_app (goodIn_of _ (by decide +kernel)) ggL_law_X3_triangle
set_option maxRecDepth 20000 in
theorem ggL_law_L_take : GoodIn wsL_law wsL_take := goodIn_ca (goodIn_r _ [161, 109, 162, 163, 164, 2, 165, 114, 115, 20, 166, 167, 168, 19, 169, 39, 38, 170, 171, 172, 173, 636, 637, 638, 639, 640, 641, 656, 657, 658, 659] (by decide +kernel) (by decide +kernel)) (goodIn_sub (fun _ h => List.mem_append_right _ h) (by decide +kernel))
set_option maxRecDepth 20000 in
theorem gL_law_L_take : GoodIn wsL_law (va_wsS RL 64 yL_take wsL_take) := goodIn_app (goodIn_of _ (by decide +kernel)) ggL_law_L_take
set_option maxRecDepth 20000 in
theorem ggL_law_X3_take : GoodIn wsL_law wsX3_take := goodIn_r _ [177, 91, 48, 149, 178, 179, 180, 5, 181, 150, 95, 96, 97, 642, 643, 644, 645, 646, 647, 648, 649, 650, 651, 652] (by decide +kernel) (by decide +kernel)
set_option maxRecDepth 20000 in
theorem gL_law_X3_take : GoodIn wsL_law (wsV RL 67 RX3 yX3_take wsX3_take) := goodIn_app (goodIn_of _ (by decide +kernel)) ggL_law_X3_take
set_option maxRecDepth 20000 in
theorem ggL_law_L_part : GoodIn wsL_law wsL_part := goodIn_ca (goodIn_ca (goodIn_ca (goodIn_r _ [184, 109, 57, 58, 185, 186, 187, 2, 188, 114, 115, 63, 64, 65, 66, 20, 16, 166, 167, 168, 19, 169, 39, 38, 67, 68, 69, 189, 190, 191, 192, 193, 194, 195, 196, 197, 198, 199, 200, 37, 201, 202, 203, 15, 204, 30, 31, 70, 71, 72, 73, 32, 74, 75, 76, 77, 133, 134, 135, 136, 40, 78, 79, 80, 81, 82, 83, 84, 85, 205, 142, 143, 144, 137, 138, 139, 140, 141, 636, 637, 638, 639, 640, 641, 656, 657, 658, 659, 653, 654, 655] (by decide +kernel) (by decide +kernel)) (goodIn_sub (fun _ h => List.mem_append_right _ h) (by decide +kernel))) (goodIn_sub (fun _ h => List.mem_append_left _ (List.mem_append_left _ (List.mem_append_right _ h))) (by decide +kernel))) (goodIn_sub (fun _ h => List.mem_append_left _ (List.mem_append_right _ h)) (by decide +kernel))
set_option maxRecDepth 20000 in
theorem gL_law_L_part : GoodIn wsL_law (va_wsS RL 68 yL_part wsL_part) := goodIn_app (goodIn_of _ (by decide +kernel)) ggL_law_L_part
set_option maxRecDepth 20000 in
theorem ggL_law_X3_part : GoodIn wsL_law wsX3_part := goodIn_r _ [209, 91, 45, 46, 90, 149, 150, 178, 179, 180, 5, 181, 48, 95, 96, 97, 92, 93, 94, 210, 211, 212, 213, 49, 214, 215, 216, 98, 99, 100, 101, 217, 87, 88, 89, 155, 156, 157, 158, 151, 152, 153, 154, 642, 643, 644, 645, 646, 647, 648, 649, 650, 651, 652] (by decide +kernel) (by decide +kernel)
set_option maxRecDepth 20000 in
theorem gL_law_X3_part : GoodIn wsL_law (wsV RL 70 RX3 yX3_part wsX3_part) := goodIn_app (goodIn_of _ (by decide +kernel)) ggL_law_X3_part
set_option maxRecDepth 20000 in
theorem ggL_law_L_turn : GoodIn wsL_law wsL_turn := goodIn_ca (goodIn_r _ [220, 109, 221, 222, 223, 2, 224, 114, 115, 225, 226, 227, 228, 20, 166, 167, 168, 19, 169, 39, 38, 229, 230, 231, 232, 16, 233, 234, 235, 236, 237, 198, 199, 200, 37, 238, 239, 240, 241, 197, 242, 243, 244, 245, 246, 247, 248, 15, 249, 30, 31, 250, 202, 203, 204, 205, 142, 143, 144, 636, 637, 638, 639, 640, 641, 656, 657, 658, 659, 653, 654, 655] (by decide +kernel) (by decide +kernel)) (goodIn_sub (fun _ h => List.mem_append_right _ h) (by decide +kernel))
set_option maxRecDepth 20000 in
theorem gL_law_L_turn : GoodIn wsL_law (va_wsS RL 71 yL_turn wsL_turn) := goodIn_app (goodIn_of _ (by decide +kernel)) ggL_law_L_turn
set_option maxRecDepth 20000 in
theorem ggL_law_X3_turn : GoodIn wsL_law wsX3_turn := goodIn_r _ [254, 91, 178, 179, 180, 5, 181, 150, 48, 95, 96, 97, 255, 256, 257, 258, 259, 260, 261, 262, 210, 211, 212, 213, 49, 263, 264, 265, 266, 267, 268, 269, 270, 45, 46, 214, 215, 216, 155, 156, 157, 158, 642, 643, 644, 645, 646, 647, 648, 649, 650, 651, 652] (by decide +kernel) (by decide +kernel)
set_option maxRecDepth 20000 in
theorem gL_law_X3_turn : GoodIn wsL_law (wsV RL 73 RX3 yX3_turn wsX3_turn) := goodIn_app (goodIn_of _ (by decide +kernel)) ggL_law_X3_turn
set_option maxRecDepth 20000 in
theorem ggL_law_L_improve : GoodIn wsL_law wsL_improve := goodIn_ca (goodIn_r _ [273, 57, 274, 275, 276, 2, 277, 63, 64, 278, 279, 280, 281, 20, 282, 283, 284, 19, 285, 39, 286, 287, 288, 289, 38, 290, 291, 292, 293, 16, 233, 234, 235, 236, 237, 198, 199, 200, 37, 238, 239, 240, 241, 197, 242, 243, 244, 245, 294, 295, 296, 15, 297, 30, 31, 229, 230, 231, 232, 246, 247, 248, 249, 250, 202, 203, 204, 205, 142, 143, 144, 636, 637, 638, 639, 640, 641, 656, 657, 658, 659, 653, 654, 655] (by decide +kernel) (by decide +kernel)) (goodIn_sub (fun _ h => List.mem_append_left _ (List.mem_append_left _ (List.mem_append_right _ h))) (by decide +kernel))
set_option maxRecDepth 20000 in
theorem gL_law_L_improve : GoodIn wsL_law (va_wsS RL 74 yL_improve wsL_improve) := goodIn_app (goodIn_of _ (by decide +kernel)) ggL_law_L_improve
set_option maxRecDepth 20000 in
theorem ggL_law_X3_improve : GoodIn wsL_law wsX3_improve := goodIn_r _ [301, 91, 95, 96, 5, 97, 302, 303, 304, 305, 150, 48, 306, 307, 308, 309, 45, 46, 259, 260, 261, 262, 210, 211, 212, 213, 49, 263, 264, 265, 266, 310, 311, 312, 255, 256, 257, 258, 267, 268, 269, 270, 214, 215, 216, 155, 156, 157, 158, 642, 643, 644, 645, 646, 647, 648, 649, 650, 651, 652] (by decide +kernel) (by decide +kernel)
set_option maxRecDepth 20000 in
theorem gL_law_X3_improve : GoodIn wsL_law (wsV RL 77 RX3 yX3_improve wsX3_improve) := goodIn_app (goodIn_of _ (by decide +kernel)) ggL_law_X3_improve
set_option maxRecDepth 20000 in
theorem ggL_law_X2_fault : GoodIn wsL_law wsX2_fault := goodIn_r _ [316, 20, 282, 283, 284, 19, 285, 39, 286, 287, 288, 289, 38, 317, 318, 319, 2, 320, 321, 322, 323, 324, 16, 197, 198, 199, 200, 37, 246, 247, 248, 15, 249, 30, 31, 250, 202, 203, 204, 325, 326, 327, 328, 24, 25, 329, 330, 331, 332, 333, 334, 335, 336, 337, 338, 339, 340, 341, 342, 343, 344, 345, 346, 347, 348, 349, 350, 351, 352, 353, 354, 355, 356, 357, 358, 359, 360, 361, 362, 363, 364, 365, 366, 367, 368, 369, 370, 371, 372, 373, 374, 375, 376, 377, 378, 379, 380, 381, 382, 383, 384, 385, 386, 387, 388, 389, 390, 391, 392, 393, 394, 395, 193, 194, 195, 196, 201, 396, 397, 398, 399, 400, 401, 402, 403, 404, 405, 406, 407, 636, 637, 638, 639, 640, 641, 656, 657, 658, 659, 653, 654, 655] (by decide +kernel) (by decide +kernel)
set_option maxRecDepth 20000 in
theorem gL_law_X2_fault : GoodIn wsL_law (wsV RL 78 RX2 yX2_fault wsX2_fault) := goodIn_app (goodIn_of _ (by decide +kernel)) ggL_law_X2_fault
set_option maxRecDepth 20000 in
theorem ggL_law_X3_fault : GoodIn wsL_law wsX3_fault := goodIn_r _ [411, 91, 150, 48, 412, 413, 414, 5, 415, 416, 417, 418, 419, 210, 211, 212, 213, 49, 267, 268, 269, 270, 45, 46, 214, 215, 216, 420, 421, 422, 423, 50, 51, 424, 425, 426, 427, 428, 429, 430, 431, 432, 433, 434, 435, 436, 437, 438, 439, 440, 441, 442, 443, 444, 445, 446, 642, 643, 644, 645, 646, 647, 648, 649, 650, 651, 652] (by decide +kernel) (by decide +kernel)
set_option maxRecDepth 20000 in
theorem gL_law_X3_fault : GoodIn wsL_law (wsV RL 81 RX3 yX3_fault wsX3_fault) := goodIn_app (goodIn_of _ (by decide +kernel)) ggL_law_X3_fault
set_option maxRecDepth 20000 in
theorem ggL_law_X2_culprit : GoodIn wsL_law wsX2_culprit := goodIn_r _ [450, 24, 25, 636, 637, 638, 639, 640, 641] (by decide +kernel) (by decide +kernel)
set_option maxRecDepth 20000 in
theorem gL_law_X2_culprit : GoodIn wsL_law (wsV RL 82 RX2 yX2_culprit wsX2_culprit) := goodIn_app (goodIn_of _ (by decide +kernel)) ggL_law_X2_culprit
set_option maxRecDepth 20000 in
theorem ggL_law_X3_culprit : GoodIn wsL_law wsX3_culprit := goodIn_r _ [454, 91, 50, 51, 642, 643, 644, 645, 646, 647, 648, 649, 650, 651, 652] (by decide +kernel) (by decide +kernel)
set_option maxRecDepth 20000 in
theorem gL_law_X3_culprit : GoodIn wsL_law (wsV RL 85 RX3 yX3_culprit wsX3_culprit) := goodIn_app (goodIn_of _ (by decide +kernel)) ggL_law_X3_culprit
set_option maxRecDepth 20000 in
theorem ggL_law_X2_covers : GoodIn wsL_law wsX2_covers := goodIn_r _ [458, 20, 459, 460, 2, 461, 282, 283, 284, 19, 285, 39, 286, 287, 288, 289, 38, 462, 463, 464, 465, 317, 318, 319, 320, 321, 322, 323, 324, 16, 197, 198, 199, 200, 37, 246, 247, 248, 15, 249, 30, 31, 250, 202, 203, 204, 466, 467, 468, 469, 470, 471, 472, 193, 194, 195, 196, 201, 473, 474, 475, 476, 372, 373, 374, 375, 353, 354, 355, 356, 636, 637, 638, 639, 640, 641, 656, 657, 658, 659, 653, 654, 655] (by decide +kernel) (by decide +kernel)
set_option maxRecDepth 20000 in
theorem gL_law_X2_covers : GoodIn wsL_law (wsV RL 86 RX2 yX2_covers wsX2_covers) := goodIn_app (goodIn_of _ (by decide +kernel)) ggL_law_X2_covers
set_option maxRecDepth 20000 in
theorem ggL_law_X3_covers : GoodIn wsL_law wsX3_covers := goodIn_r _ [480, 91, 95, 96, 5, 97, 481, 482, 483, 484, 150, 485, 486, 487, 488, 45, 46, 178, 179, 180, 181, 48, 412, 413, 414, 415, 416, 417, 418, 419, 210, 211, 212, 213, 49, 267, 268, 269, 270, 214, 215, 216, 642, 643, 644, 645, 646, 647, 648, 649, 650, 651, 652] (by decide +kernel) (by decide +kernel)
set_option maxRecDepth 20000 in
theorem gL_law_X3_covers : GoodIn wsL_law (wsV RL 89 RX3 yX3_covers wsX3_covers) := goodIn_app (goodIn_of _ (by decide +kernel)) ggL_law_X3_covers
set_option maxRecDepth 20000 in
theorem ggL_law_X2_who : GoodIn wsL_law wsX2_who := goodIn_r _ [492, 20, 459, 460, 2, 461, 282, 283, 284, 19, 285, 39, 286, 287, 288, 289, 38, 462, 463, 464, 465, 317, 318, 319, 320, 321, 322, 323, 324, 16, 197, 198, 199, 200, 37, 246, 247, 248, 15, 249, 30, 31, 250, 202, 203, 204, 466, 467, 468, 469, 470, 471, 472, 193, 194, 195, 196, 201, 473, 474, 475, 476, 372, 373, 374, 375, 353, 354, 355, 356, 636, 637, 638, 639, 640, 641, 656, 657, 658, 659, 653, 654, 655] (by decide +kernel) (by decide +kernel)
set_option maxRecDepth 20000 in
theorem gL_law_X2_who : GoodIn wsL_law (wsV RL 90 RX2 yX2_who wsX2_who) := goodIn_app (goodIn_of _ (by decide +kernel)) ggL_law_X2_who
set_option maxRecDepth 20000 in
theorem ggL_law_X3_who : GoodIn wsL_law wsX3_who := goodIn_r _ [496, 91, 150, 95, 96, 5, 97, 485, 486, 487, 488, 45, 46, 178, 179, 180, 181, 48, 412, 413, 414, 415, 416, 417, 418, 419, 210, 211, 212, 213, 49, 267, 268, 269, 270, 214, 215, 216, 642, 643, 644, 645, 646, 647, 648, 649, 650, 651, 652] (by decide +kernel) (by decide +kernel)
set_option maxRecDepth 20000 in
theorem gL_law_X3_who : GoodIn wsL_law (wsV RL 93 RX3 yX3_who wsX3_who) := goodIn_app (goodIn_of _ (by decide +kernel)) ggL_law_X3_who
set_option maxRecDepth 20000 in
theorem ggL_law_X2_painted : GoodIn wsL_law wsX2_painted := goodIn_r _ [500, 501, 502, 503, 504, 2, 505, 506, 507, 508, 509, 20, 282, 283, 284, 19, 285, 39, 286, 287, 288, 289, 38, 510, 511, 512, 513, 376, 377, 378, 379, 361, 362, 347, 363, 368, 369, 370, 371, 16, 197, 198, 199, 200, 37, 372, 373, 374, 15, 375, 31, 364, 365, 366, 367, 345, 346, 348, 317, 318, 319, 320, 321, 322, 323, 324, 246, 247, 248, 249, 30, 250, 202, 203, 204, 341, 342, 343, 344, 349, 350, 351, 352, 353, 354, 355, 356, 357, 358, 359, 360, 466, 467, 468, 469, 470, 471, 472, 193, 194, 195, 196, 201, 473, 474, 475, 476, 514, 515, 516, 517, 518, 519, 520, 521, 522, 523, 524, 636, 637, 638, 639, 640, 641, 656, 657, 658, 659, 653, 654, 655] (by decide +kernel) (by decide +kernel)
set_option maxRecDepth 20000 in
theorem gL_law_X2_painted : GoodIn wsL_law (wsV RL 94 RX2 yX2_painted wsX2_painted) := goodIn_app (goodIn_of _ (by decide +kernel)) ggL_law_X2_painted
set_option maxRecDepth 20000 in
theorem ggL_law_X3_painted : GoodIn wsL_law wsX3_painted := goodIn_r _ [528, 91, 529, 150, 48, 412, 413, 414, 5, 415, 416, 417, 418, 419, 210, 211, 212, 213, 49, 267, 268, 269, 270, 45, 46, 214, 215, 216, 481, 482, 483, 484, 485, 486, 487, 488, 178, 179, 180, 181, 95, 96, 97, 642, 643, 644, 645, 646, 647, 648, 649, 650, 651, 652] (by decide +kernel) (by decide +kernel)
set_option maxRecDepth 20000 in
theorem gL_law_X3_painted : GoodIn wsL_law (wsV RL 98 RX3 yX3_painted wsX3_painted) := goodIn_app (goodIn_of _ (by decide +kernel)) ggL_law_X3_painted
set_option maxRecDepth 20000 in
theorem ggL_law_X2_locate : GoodIn wsL_law wsX2_locate := goodIn_r _ [533, 20, 67, 68, 2, 69, 282, 283, 284, 19, 285, 39, 286, 287, 288, 289, 38, 317, 318, 319, 320, 321, 322, 323, 324, 16, 197, 198, 199, 200, 37, 246, 247, 248, 15, 249, 30, 31, 250, 202, 203, 204, 392, 393, 394, 395, 193, 194, 195, 196, 201, 636, 637, 638, 639, 640, 641, 656, 657, 658, 659, 653, 654, 655] (by decide +kernel) (by decide +kernel)
set_option maxRecDepth 20000 in
theorem gL_law_X2_locate : GoodIn wsL_law (wsV RL 99 RX2 yX2_locate wsX2_locate) := goodIn_app (goodIn_of _ (by decide +kernel)) ggL_law_X2_locate
set_option maxRecDepth 20000 in
theorem ggL_law_X3_locate : GoodIn wsL_law wsX3_locate := goodIn_r _ [537, 91, 150, 48, 412, 413, 414, 5, 415, 416, 417, 418, 419, 210, 211, 212, 213, 49, 267, 268, 269, 270, 45, 46, 214, 215, 216, 432, 433, 434, 435, 642, 643, 644, 645, 646, 647, 648, 649, 650, 651, 652] (by decide +kernel) (by decide +kernel)
set_option maxRecDepth 20000 in
theorem gL_law_X3_locate : GoodIn wsL_law (wsV RL 102 RX3 yX3_locate wsX3_locate) := goodIn_app (goodIn_of _ (by decide +kernel)) ggL_law_X3_locate
set_option maxRecDepth 20000 in
theorem ggL_law_X2_beside : GoodIn wsL_law wsX2_beside := goodIn_r _ [541, 20, 225, 226, 227, 2, 228, 166, 167, 168, 19, 169, 39, 38, 233, 234, 235, 236, 237, 198, 199, 200, 37, 238, 239, 240, 241, 636, 637, 638, 639, 640, 641, 656, 657, 658, 659] (by decide +kernel) (by decide +kernel)
set_option maxRecDepth 20000 in
theorem gL_law_X2_beside : GoodIn wsL_law (wsV RL 103 RX2 yX2_beside wsX2_beside) := goodIn_app (goodIn_of _ (by decide +kernel)) ggL_law_X2_beside
set_option maxRecDepth 20000 in
theorem ggL_law_X3_beside : GoodIn wsL_law wsX3_beside := goodIn_r _ [545, 91, 178, 179, 180, 5, 181, 150, 48, 95, 96, 97, 259, 260, 261, 262, 210, 211, 212, 213, 49, 642, 643, 644, 645, 646, 647, 648, 649, 650, 651, 652] (by decide +kernel) (by decide +kernel)
set_option maxRecDepth 20000 in
theorem gL_law_X3_beside : GoodIn wsL_law (wsV RL 106 RX3 yX3_beside wsX3_beside) := goodIn_app (goodIn_of _ (by decide +kernel)) ggL_law_X3_beside
set_option maxRecDepth 20000 in
theorem ggL_law_X2_isGood : GoodIn wsL_law wsX2_isGood := goodIn_r _ [549, 225, 226, 227, 2, 228, 20, 166, 167, 168, 19, 169, 39, 38, 290, 291, 292, 293, 16, 233, 234, 235, 236, 237, 198, 199, 200, 37, 238, 239, 240, 241, 197, 242, 243, 244, 245, 294, 295, 296, 15, 297, 30, 31, 636, 637, 638, 639, 640, 641, 656, 657, 658, 659, 653, 654, 655] (by decide +kernel) (by decide +kernel)
set_option maxRecDepth 20000 in
theorem gL_law_X2_isGood : GoodIn wsL_law (wsV RL 107 RX2 yX2_isGood wsX2_isGood) := goodIn_app (goodIn_of _ (by decide +kernel)) ggL_law_X2_isGood
set_option maxRecDepth 20000 in
theorem ggL_law_X3_isGood : GoodIn wsL_law wsX3_isGood := goodIn_r _ [553, 91, 178, 179, 180, 5, 181, 150, 48, 95, 96, 97, 306, 307, 308, 309, 45, 46, 259, 260, 261, 262, 210, 211, 212, 213, 49, 263, 264, 265, 266, 310, 311, 312, 642, 643, 644, 645, 646, 647, 648, 649, 650, 651, 652] (by decide +kernel) (by decide +kernel)
set_option maxRecDepth 20000 in
theorem gL_law_X3_isGood : GoodIn wsL_law (wsV RL 110 RX3 yX3_isGood wsX3_isGood) := goodIn_app (goodIn_of _ (by decide +kernel)) ggL_law_X3_isGood
set_option maxRecDepth 20000 in
theorem ggL_law_X2_corner : GoodIn wsL_law wsX2_corner := goodIn_r _ [557, 20, 225, 226, 227, 2, 228, 166, 167, 168, 19, 169, 39, 38, 197, 198, 199, 200, 37, 636, 637, 638, 639, 640, 641, 656, 657, 658, 659] (by decide +kernel) (by decide +kernel)
set_option maxRecDepth 20000 in
theorem gL_law_X2_corner : GoodIn wsL_law (wsV RL 111 RX2 yX2_corner wsX2_corner) := goodIn_app (goodIn_of _ (by decide +kernel)) ggL_law_X2_corner
set_option maxRecDepth 20000 in
theorem ggL_law_X3_corner : GoodIn wsL_law wsX3_corner := goodIn_r _ [561, 91, 178, 179, 180, 5, 181, 150, 48, 95, 96, 97, 210, 211, 212, 213, 49, 642, 643, 644, 645, 646, 647, 648, 649, 650, 651, 652] (by decide +kernel) (by decide +kernel)
set_option maxRecDepth 20000 in
theorem gL_law_X3_corner : GoodIn wsL_law (wsV RL 114 RX3 yX3_corner wsX3_corner) := goodIn_app (goodIn_of _ (by decide +kernel)) ggL_law_X3_corner
set_option maxRecDepth 20000 in
theorem ggL_law_X2_count : GoodIn wsL_law wsX2_count := goodIn_r _ [565, 16, 20, 566, 567, 568, 15, 569, 32, 282, 283, 284, 19, 285, 39, 570, 571, 572, 573, 40, 574, 575, 576, 2, 577, 286, 287, 288, 289, 38, 197, 198, 199, 200, 37, 578, 579, 580, 581, 582, 583, 584, 585, 586, 587, 588, 589, 590, 591, 21, 361, 362, 347, 363, 345, 346, 348, 592, 593, 594, 595, 596, 597, 598, 599, 233, 234, 235, 236, 237, 238, 239, 240, 241, 600, 601, 602, 603, 23, 604, 605, 606, 607, 608, 609, 610, 611, 290, 291, 292, 293, 242, 243, 244, 245, 294, 295, 296, 297, 30, 31, 636, 637, 638, 639, 640, 641, 653, 654, 655, 656, 657, 658, 659] (by decide +kernel) (by decide +kernel)
set_option maxRecDepth 20000 in
theorem gL_law_X2_count : GoodIn wsL_law (wsV RL 115 RX2 yX2_count wsX2_count) := goodIn_app (goodIn_of _ (by decide +kernel)) ggL_law_X2_count
set_option maxRecDepth 20000 in
theorem ggL_law_X3_count : GoodIn wsL_law wsX3_count := goodIn_r _ [615, 91, 90, 149, 150, 616, 617, 618, 5, 619, 48, 428, 429, 430, 431, 210, 211, 212, 213, 49, 620, 621, 622, 623, 624, 625, 626, 627, 628, 629, 630, 631, 259, 260, 261, 262, 306, 307, 308, 309, 45, 46, 263, 264, 265, 266, 310, 311, 312, 632, 633, 634, 635, 52, 642, 643, 644, 645, 646, 647, 648, 649, 650, 651, 652] (by decide +kernel) (by decide +kernel)
set_option maxRecDepth 20000 in
theorem gL_law_X3_count : GoodIn wsL_law (wsV RL 118 RX3 yX3_count wsX3_count) := goodIn_app (goodIn_of _ (by decide +kernel)) ggL_law_X3_count
theorem dL_law_0 : decode cL_law 0 = .ok (.new 8, 3) := by decide +kernel
theorem dL_law_3 : decode cL_law 3 = .ok (.dup, 1) := by decide +kernel
theorem dL_law_4 : decode cL_law 4 = .ok (.invokespecial 42, 3) := by decide +kernel
theorem dL_law_7 : decode cL_law 7 = .ok (.astore_n 1, 1) := by decide +kernel
theorem dL_law_8 : decode cL_law 8 = .ok (.new 43, 3) := by decide +kernel
theorem dL_law_11 : decode cL_law 11 = .ok (.dup, 1) := by decide +kernel
theorem dL_law_12 : decode cL_law 12 = .ok (.invokespecial 45, 3) := by decide +kernel
theorem dL_law_15 : decode cL_law 15 = .ok (.astore_n 2, 1) := by decide +kernel
theorem dL_law_16 : decode cL_law 16 = .ok (.iconst 1, 1) := by decide +kernel
theorem dL_law_17 : decode cL_law 17 = .ok (.newarray .long, 2) := by decide +kernel
theorem dL_law_19 : decode cL_law 19 = .ok (.astore_n 3, 1) := by decide +kernel
theorem dL_law_20 : decode cL_law 20 = .ok (.iconst 0, 1) := by decide +kernel
theorem dL_law_21 : decode cL_law 21 = .ok (.istore 4, 2) := by decide +kernel
theorem dL_law_23 : decode cL_law 23 = .ok (.iload 4, 2) := by decide +kernel
theorem dL_law_25 : decode cL_law 25 = .ok (.aload_n 0, 1) := by decide +kernel
theorem dL_law_26 : decode cL_law 26 = .ok (.arraylength, 1) := by decide +kernel
theorem dL_law_27 : decode cL_law 27 = .ok (.iconst 4, 1) := by decide +kernel
theorem dL_law_28 : decode cL_law 28 = .ok (.isub, 1) := by decide +kernel
theorem dL_law_29 : decode cL_law 29 = .ok (.if_icmp .gt 863, 3) := by decide +kernel
theorem dL_law_32 : decode cL_law 32 = .ok (.aload_n 0, 1) := by decide +kernel
theorem dL_law_33 : decode cL_law 33 = .ok (.iload 4, 2) := by decide +kernel
theorem dL_law_35 : decode cL_law 35 = .ok (.iaload, 1) := by decide +kernel
theorem dL_law_36 : decode cL_law 36 = .ok (.bipush 31, 2) := by decide +kernel
theorem dL_law_38 : decode cL_law 38 = .ok (.iand, 1) := by decide +kernel
theorem dL_law_39 : decode cL_law 39 = .ok (.tableswitch 847 0 16 #[81, 149, 209, 289, 325, 405, 480, 536, 549, 574, 611, 648, 674, 711, 748, 785, 822], 81) := by decide +kernel
theorem dL_law_120 : decode cL_law 120 = .ok (.aload_n 1, 1) := by decide +kernel
theorem dL_law_121 : decode cL_law 121 = .ok (.aload_n 0, 1) := by decide +kernel
theorem dL_law_122 : decode cL_law 122 = .ok (.iload 4, 2) := by decide +kernel
theorem dL_law_124 : decode cL_law 124 = .ok (.iconst 1, 1) := by decide +kernel
theorem dL_law_125 : decode cL_law 125 = .ok (.iadd, 1) := by decide +kernel
theorem dL_law_126 : decode cL_law 126 = .ok (.iaload, 1) := by decide +kernel
theorem dL_law_127 : decode cL_law 127 = .ok (.aload_n 0, 1) := by decide +kernel
theorem dL_law_128 : decode cL_law 128 = .ok (.iload 4, 2) := by decide +kernel
theorem dL_law_130 : decode cL_law 130 = .ok (.iconst 2, 1) := by decide +kernel
theorem dL_law_131 : decode cL_law 131 = .ok (.iadd, 1) := by decide +kernel
theorem dL_law_132 : decode cL_law 132 = .ok (.iaload, 1) := by decide +kernel
theorem dL_law_133 : decode cL_law 133 = .ok (.aload_n 3, 1) := by decide +kernel
theorem dL_law_134 : decode cL_law 134 = .ok (.invokestatic 46, 3) := by decide +kernel
theorem dL_law_137 : decode cL_law 137 = .ok (.istore 5, 2) := by decide +kernel
theorem dL_law_139 : decode cL_law 139 = .ok (.aload_n 2, 1) := by decide +kernel
theorem dL_law_140 : decode cL_law 140 = .ok (.aload_n 0, 1) := by decide +kernel
theorem dL_law_141 : decode cL_law 141 = .ok (.iload 4, 2) := by decide +kernel
theorem dL_law_143 : decode cL_law 143 = .ok (.iconst 1, 1) := by decide +kernel
theorem dL_law_144 : decode cL_law 144 = .ok (.iadd, 1) := by decide +kernel
theorem dL_law_145 : decode cL_law 145 = .ok (.iaload, 1) := by decide +kernel
theorem dL_law_146 : decode cL_law 146 = .ok (.aload_n 0, 1) := by decide +kernel
theorem dL_law_147 : decode cL_law 147 = .ok (.iload 4, 2) := by decide +kernel
theorem dL_law_149 : decode cL_law 149 = .ok (.iconst 2, 1) := by decide +kernel
theorem dL_law_150 : decode cL_law 150 = .ok (.iadd, 1) := by decide +kernel
theorem dL_law_151 : decode cL_law 151 = .ok (.iaload, 1) := by decide +kernel
theorem dL_law_152 : decode cL_law 152 = .ok (.invokevirtual 51, 3) := by decide +kernel
theorem dL_law_155 : decode cL_law 155 = .ok (.istore 6, 2) := by decide +kernel
theorem dL_law_157 : decode cL_law 157 = .ok (.aload_n 2, 1) := by decide +kernel
theorem dL_law_158 : decode cL_law 158 = .ok (.invokevirtual 52, 3) := by decide +kernel
theorem dL_law_161 : decode cL_law 161 = .ok (.iload 5, 2) := by decide +kernel
theorem dL_law_163 : decode cL_law 163 = .ok (.if_icmp .eq 5, 3) := by decide +kernel
theorem dL_law_166 : decode cL_law 166 = .ok (.iconst 0, 1) := by decide +kernel
theorem dL_law_167 : decode cL_law 167 = .ok (.ireturn, 1) := by decide +kernel
theorem dL_law_168 : decode cL_law 168 = .ok (.iload 5, 2) := by decide +kernel
theorem dL_law_170 : decode cL_law 170 = .ok (.ifCond .ne 15, 3) := by decide +kernel
theorem dL_law_173 : decode cL_law 173 = .ok (.aload_n 3, 1) := by decide +kernel
theorem dL_law_174 : decode cL_law 174 = .ok (.iconst 0, 1) := by decide +kernel
theorem dL_law_175 : decode cL_law 175 = .ok (.laload, 1) := by decide +kernel
theorem dL_law_176 : decode cL_law 176 = .ok (.iload 6, 2) := by decide +kernel
theorem dL_law_178 : decode cL_law 178 = .ok (.i2l, 1) := by decide +kernel
theorem dL_law_179 : decode cL_law 179 = .ok (.lcmp, 1) := by decide +kernel
theorem dL_law_180 : decode cL_law 180 = .ok (.ifCond .eq 5, 3) := by decide +kernel
theorem dL_law_183 : decode cL_law 183 = .ok (.iconst 0, 1) := by decide +kernel
theorem dL_law_184 : decode cL_law 184 = .ok (.ireturn, 1) := by decide +kernel
theorem dL_law_185 : decode cL_law 185 = .ok (.goto 701, 3) := by decide +kernel
theorem dL_law_188 : decode cL_law 188 = .ok (.aload_n 1, 1) := by decide +kernel
theorem dL_law_189 : decode cL_law 189 = .ok (.aload_n 0, 1) := by decide +kernel
theorem dL_law_190 : decode cL_law 190 = .ok (.iload 4, 2) := by decide +kernel
theorem dL_law_192 : decode cL_law 192 = .ok (.iconst 1, 1) := by decide +kernel
theorem dL_law_193 : decode cL_law 193 = .ok (.iadd, 1) := by decide +kernel
theorem dL_law_194 : decode cL_law 194 = .ok (.iaload, 1) := by decide +kernel
theorem dL_law_195 : decode cL_law 195 = .ok (.aload_n 0, 1) := by decide +kernel
theorem dL_law_196 : decode cL_law 196 = .ok (.iload 4, 2) := by decide +kernel
theorem dL_law_198 : decode cL_law 198 = .ok (.iconst 2, 1) := by decide +kernel
theorem dL_law_199 : decode cL_law 199 = .ok (.iadd, 1) := by decide +kernel
theorem dL_law_200 : decode cL_law 200 = .ok (.iaload, 1) := by decide +kernel
theorem dL_law_201 : decode cL_law 201 = .ok (.aload_n 0, 1) := by decide +kernel
theorem dL_law_202 : decode cL_law 202 = .ok (.iload 4, 2) := by decide +kernel
theorem dL_law_204 : decode cL_law 204 = .ok (.iconst 3, 1) := by decide +kernel
theorem dL_law_205 : decode cL_law 205 = .ok (.iadd, 1) := by decide +kernel
theorem dL_law_206 : decode cL_law 206 = .ok (.iaload, 1) := by decide +kernel
theorem dL_law_207 : decode cL_law 207 = .ok (.invokestatic 56, 3) := by decide +kernel
theorem dL_law_210 : decode cL_law 210 = .ok (.istore 5, 2) := by decide +kernel
theorem dL_law_212 : decode cL_law 212 = .ok (.aload_n 2, 1) := by decide +kernel
theorem dL_law_213 : decode cL_law 213 = .ok (.aload_n 0, 1) := by decide +kernel
theorem dL_law_214 : decode cL_law 214 = .ok (.iload 4, 2) := by decide +kernel
theorem dL_law_216 : decode cL_law 216 = .ok (.iconst 1, 1) := by decide +kernel
theorem dL_law_217 : decode cL_law 217 = .ok (.iadd, 1) := by decide +kernel
theorem dL_law_218 : decode cL_law 218 = .ok (.iaload, 1) := by decide +kernel
theorem dL_law_219 : decode cL_law 219 = .ok (.aload_n 0, 1) := by decide +kernel
theorem dL_law_220 : decode cL_law 220 = .ok (.iload 4, 2) := by decide +kernel
theorem dL_law_222 : decode cL_law 222 = .ok (.iconst 2, 1) := by decide +kernel
theorem dL_law_223 : decode cL_law 223 = .ok (.iadd, 1) := by decide +kernel
theorem dL_law_224 : decode cL_law 224 = .ok (.iaload, 1) := by decide +kernel
theorem dL_law_225 : decode cL_law 225 = .ok (.aload_n 0, 1) := by decide +kernel
theorem dL_law_226 : decode cL_law 226 = .ok (.iload 4, 2) := by decide +kernel
theorem dL_law_228 : decode cL_law 228 = .ok (.iconst 3, 1) := by decide +kernel
theorem dL_law_229 : decode cL_law 229 = .ok (.iadd, 1) := by decide +kernel
theorem dL_law_230 : decode cL_law 230 = .ok (.iaload, 1) := by decide +kernel
theorem dL_law_231 : decode cL_law 231 = .ok (.invokevirtual 59, 3) := by decide +kernel
theorem dL_law_234 : decode cL_law 234 = .ok (.aload_n 2, 1) := by decide +kernel
theorem dL_law_235 : decode cL_law 235 = .ok (.invokevirtual 52, 3) := by decide +kernel
theorem dL_law_238 : decode cL_law 238 = .ok (.iload 5, 2) := by decide +kernel
theorem dL_law_240 : decode cL_law 240 = .ok (.if_icmp .eq 5, 3) := by decide +kernel
theorem dL_law_243 : decode cL_law 243 = .ok (.iconst 0, 1) := by decide +kernel
theorem dL_law_244 : decode cL_law 244 = .ok (.ireturn, 1) := by decide +kernel
theorem dL_law_245 : decode cL_law 245 = .ok (.goto 641, 3) := by decide +kernel
theorem dL_law_248 : decode cL_law 248 = .ok (.aload_n 1, 1) := by decide +kernel
theorem dL_law_249 : decode cL_law 249 = .ok (.aload_n 0, 1) := by decide +kernel
theorem dL_law_250 : decode cL_law 250 = .ok (.iload 4, 2) := by decide +kernel
theorem dL_law_252 : decode cL_law 252 = .ok (.iconst 1, 1) := by decide +kernel
theorem dL_law_253 : decode cL_law 253 = .ok (.iadd, 1) := by decide +kernel
theorem dL_law_254 : decode cL_law 254 = .ok (.iaload, 1) := by decide +kernel
theorem dL_law_255 : decode cL_law 255 = .ok (.aload_n 0, 1) := by decide +kernel
theorem dL_law_256 : decode cL_law 256 = .ok (.iload 4, 2) := by decide +kernel
theorem dL_law_258 : decode cL_law 258 = .ok (.iconst 2, 1) := by decide +kernel
theorem dL_law_259 : decode cL_law 259 = .ok (.iadd, 1) := by decide +kernel
theorem dL_law_260 : decode cL_law 260 = .ok (.iaload, 1) := by decide +kernel
theorem dL_law_261 : decode cL_law 261 = .ok (.aload_n 0, 1) := by decide +kernel
theorem dL_law_262 : decode cL_law 262 = .ok (.iload 4, 2) := by decide +kernel
theorem dL_law_264 : decode cL_law 264 = .ok (.iconst 3, 1) := by decide +kernel
theorem dL_law_265 : decode cL_law 265 = .ok (.iadd, 1) := by decide +kernel
