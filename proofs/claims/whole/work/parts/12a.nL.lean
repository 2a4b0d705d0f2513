set_option maxRecDepth 20000 in
theorem ggL_needle_X4_needle : GoodIn wsL_needle wsX4_needle := goodIn_ca (goodIn_ca (goodIn_r _ [7, 8, 9, 10, 11, 6, 12, 13, 14, 15, 16, 17, 18, 19, 20, 21, 22, 23, 24, 25, 26, 27, 28, 29, 30, 31, 32, 33, 34, 35, 36, 37, 38, 39, 40, 41, 42, 43, 44, 45, 46, 47, 48, 49, 50, 51, 52, 53, 54, 55, 56, 57, 58, 59, 60, 61, 62, 63, 64, 65, 66, 67, 68, 69, 70, 71, 72, 73, 74, 75, 76, 77, 78, 79, 80, 81, 82, 83, 84, 85, 86] (by decide +kernel) (by decide +kernel)) (goodIn_sub (fun _ h => List.mem_cons_of_mem _ (List.mem_append_left _ (List.mem_append_right _ h))) (by decide +kernel))) (goodIn_sub (fun _ h => List.mem_cons_of_mem _ (List.mem_append_right _ h)) (by decide +kernel))
set_option maxRecDepth 20000 in
theorem gL_needle_X4_needle : GoodIn wsL_needle (wsV RL 7 RX4 yX4_needle wsX4_needle) := goodIn_app (goodIn_of _ (by decide +kernel)) ggL_needle_X4_needle
theorem dL_needle_0 : decode cL_needle 0 = .ok (.aload_n 3, 1) := by decide +kernel
theorem dL_needle_1 : decode cL_needle 1 = .ok (.iconst 0, 1) := by decide +kernel
theorem dL_needle_2 : decode cL_needle 2 = .ok (.aload_n 0, 1) := by decide +kernel
theorem dL_needle_3 : decode cL_needle 3 = .ok (.iload_n 1, 1) := by decide +kernel
theorem dL_needle_4 : decode cL_needle 4 = .ok (.iload_n 2, 1) := by decide +kernel
theorem dL_needle_5 : decode cL_needle 5 = .ok (.invokevirtual 7, 3) := by decide +kernel
theorem dL_needle_8 : decode cL_needle 8 = .ok (.i2l, 1) := by decide +kernel
theorem dL_needle_9 : decode cL_needle 9 = .ok (.lastore, 1) := by decide +kernel
theorem dL_needle_10 : decode cL_needle 10 = .ok (.goto 11, 3) := by decide +kernel
theorem dL_needle_13 : decode cL_needle 13 = .ok (.astore 4, 2) := by decide +kernel
theorem dL_needle_15 : decode cL_needle 15 = .ok (.iconst 1, 1) := by decide +kernel
theorem dL_needle_16 : decode cL_needle 16 = .ok (.ireturn, 1) := by decide +kernel
theorem dL_needle_17 : decode cL_needle 17 = .ok (.astore 4, 2) := by decide +kernel
theorem dL_needle_19 : decode cL_needle 19 = .ok (.iconst 2, 1) := by decide +kernel
theorem dL_needle_20 : decode cL_needle 20 = .ok (.ireturn, 1) := by decide +kernel
theorem dL_needle_21 : decode cL_needle 21 = .ok (.iconst 0, 1) := by decide +kernel
theorem dL_needle_22 : decode cL_needle 22 = .ok (.ireturn, 1) := by decide +kernel
set_option maxRecDepth 20000 in
theorem ggL_friction_X4_friction : GoodIn wsL_friction wsX4_friction := goodIn_ca (goodIn_ca (goodIn_r _ [7, 8, 9, 10, 11, 6, 12, 13, 14, 15, 16, 17, 18, 19, 20, 21, 22, 23, 24, 25, 26, 27, 28, 29, 30, 31, 32, 33, 34, 35, 36, 37, 38, 39, 40, 41, 42, 43, 44, 45, 46, 47, 48, 49, 50, 51, 52, 53, 54, 55, 56, 57, 58, 59, 60, 61, 62, 63, 64, 65] (by decide +kernel) (by decide +kernel)) (goodIn_sub (fun _ h => List.mem_cons_of_mem _ (List.mem_append_left _ (List.mem_append_right _ h))) (by decide +kernel))) (goodIn_sub (fun _ h => List.mem_cons_of_mem _ (List.mem_append_right _ h)) (by decide +kernel))
set_option maxRecDepth 20000 in
theorem gL_friction_X4_friction : GoodIn wsL_friction (wsV RL 17 RX4 yX4_friction wsX4_friction) := goodIn_app (goodIn_of _ (by decide +kernel)) ggL_friction_X4_friction
theorem dL_friction_0 : decode cL_friction 0 = .ok (.aload_n 3, 1) := by decide +kernel
theorem dL_friction_1 : decode cL_friction 1 = .ok (.iconst 0, 1) := by decide +kernel
theorem dL_friction_2 : decode cL_friction 2 = .ok (.aload_n 0, 1) := by decide +kernel
theorem dL_friction_3 : decode cL_friction 3 = .ok (.iload_n 1, 1) := by decide +kernel
theorem dL_friction_4 : decode cL_friction 4 = .ok (.iload_n 2, 1) := by decide +kernel
theorem dL_friction_5 : decode cL_friction 5 = .ok (.invokevirtual 17, 3) := by decide +kernel
theorem dL_friction_8 : decode cL_friction 8 = .ok (.i2l, 1) := by decide +kernel
theorem dL_friction_9 : decode cL_friction 9 = .ok (.lastore, 1) := by decide +kernel
theorem dL_friction_10 : decode cL_friction 10 = .ok (.goto 11, 3) := by decide +kernel
theorem dL_friction_13 : decode cL_friction 13 = .ok (.astore 4, 2) := by decide +kernel
theorem dL_friction_15 : decode cL_friction 15 = .ok (.iconst 1, 1) := by decide +kernel
theorem dL_friction_16 : decode cL_friction 16 = .ok (.ireturn, 1) := by decide +kernel
theorem dL_friction_17 : decode cL_friction 17 = .ok (.astore 4, 2) := by decide +kernel
theorem dL_friction_19 : decode cL_friction 19 = .ok (.iconst 2, 1) := by decide +kernel
theorem dL_friction_20 : decode cL_friction 20 = .ok (.ireturn, 1) := by decide +kernel
theorem dL_friction_21 : decode cL_friction 21 = .ok (.iconst 0, 1) := by decide +kernel
theorem dL_friction_22 : decode cL_friction 22 = .ok (.ireturn, 1) := by decide +kernel
set_option maxRecDepth 20000 in
theorem ggL_hold_X4_hold : GoodIn wsL_hold wsX4_hold := goodIn_ca (goodIn_r _ [6, 7, 8, 9, 10, 5, 11, 12, 13, 14, 15, 16, 17, 18, 19, 20, 21, 22, 23, 24, 25, 26, 27, 28, 29, 30, 31, 32, 33, 34, 35, 36, 37, 38, 39, 40, 41, 42, 43, 44, 45, 46, 47, 48, 49, 50, 51, 52, 53, 54, 55, 56, 57, 58, 59] (by decide +kernel) (by decide +kernel)) (goodIn_sub (fun _ h => List.mem_cons_of_mem _ (List.mem_append_right _ h)) (by decide +kernel))
set_option maxRecDepth 20000 in
theorem gL_hold_X4_hold : GoodIn wsL_hold (wsV RL 20 RX4 yX4_hold wsX4_hold) := goodIn_app (goodIn_of _ (by decide +kernel)) ggL_hold_X4_hold
theorem dL_hold_0 : decode cL_hold 0 = .ok (.aload_n 3, 1) := by decide +kernel
theorem dL_hold_1 : decode cL_hold 1 = .ok (.iconst 0, 1) := by decide +kernel
theorem dL_hold_2 : decode cL_hold 2 = .ok (.aload_n 0, 1) := by decide +kernel
theorem dL_hold_3 : decode cL_hold 3 = .ok (.iload_n 1, 1) := by decide +kernel
theorem dL_hold_4 : decode cL_hold 4 = .ok (.iload_n 2, 1) := by decide +kernel
theorem dL_hold_5 : decode cL_hold 5 = .ok (.invokevirtual 20, 3) := by decide +kernel
theorem dL_hold_8 : decode cL_hold 8 = .ok (.i2l, 1) := by decide +kernel
theorem dL_hold_9 : decode cL_hold 9 = .ok (.lastore, 1) := by decide +kernel
theorem dL_hold_10 : decode cL_hold 10 = .ok (.goto 7, 3) := by decide +kernel
theorem dL_hold_13 : decode cL_hold 13 = .ok (.astore 4, 2) := by decide +kernel
theorem dL_hold_15 : decode cL_hold 15 = .ok (.iconst 1, 1) := by decide +kernel
theorem dL_hold_16 : decode cL_hold 16 = .ok (.ireturn, 1) := by decide +kernel
theorem dL_hold_17 : decode cL_hold 17 = .ok (.iconst 0, 1) := by decide +kernel
theorem dL_hold_18 : decode cL_hold 18 = .ok (.ireturn, 1) := by decide +kernel
set_option maxRecDepth 20000 in
theorem ggL_swap_X4_swap : GoodIn wsL_swap wsX4_swap := goodIn_ca (goodIn_r _ [6, 7, 8, 9, 10, 5, 11, 12, 13, 14, 15, 16, 17, 18, 19, 20, 21, 22, 23, 24, 25, 26, 27, 28, 29, 30, 31, 32, 33, 34, 35, 36, 37, 38, 39, 40, 41, 42, 43, 44, 45, 46, 47, 48, 49, 50, 51, 52, 53, 54, 55, 56, 57, 58, 59, 60, 61, 62, 63, 64, 65, 66, 67, 68, 69, 70, 71, 72, 73, 74, 75, 76, 77, 78, 79, 80] (by decide +kernel) (by decide +kernel)) (goodIn_sub (fun _ h => List.mem_cons_of_mem _ (List.mem_append_right _ h)) (by decide +kernel))
set_option maxRecDepth 20000 in
theorem gL_swap_X4_swap : GoodIn wsL_swap (wsV RL 24 RX4 yX4_swap wsX4_swap) := goodIn_app (goodIn_of _ (by decide +kernel)) ggL_swap_X4_swap
theorem dL_swap_0 : decode cL_swap 0 = .ok (.aload_n 3, 1) := by decide +kernel
theorem dL_swap_1 : decode cL_swap 1 = .ok (.iconst 0, 1) := by decide +kernel
theorem dL_swap_2 : decode cL_swap 2 = .ok (.aload_n 0, 1) := by decide +kernel
theorem dL_swap_3 : decode cL_swap 3 = .ok (.iload_n 1, 1) := by decide +kernel
theorem dL_swap_4 : decode cL_swap 4 = .ok (.iload_n 2, 1) := by decide +kernel
theorem dL_swap_5 : decode cL_swap 5 = .ok (.invokevirtual 24, 3) := by decide +kernel
theorem dL_swap_8 : decode cL_swap 8 = .ok (.i2l, 1) := by decide +kernel
theorem dL_swap_9 : decode cL_swap 9 = .ok (.lastore, 1) := by decide +kernel
theorem dL_swap_10 : decode cL_swap 10 = .ok (.goto 7, 3) := by decide +kernel
theorem dL_swap_13 : decode cL_swap 13 = .ok (.astore 4, 2) := by decide +kernel
theorem dL_swap_15 : decode cL_swap 15 = .ok (.iconst 1, 1) := by decide +kernel
theorem dL_swap_16 : decode cL_swap 16 = .ok (.ireturn, 1) := by decide +kernel
theorem dL_swap_17 : decode cL_swap 17 = .ok (.iconst 0, 1) := by decide +kernel
theorem dL_swap_18 : decode cL_swap 18 = .ok (.ireturn, 1) := by decide +kernel
set_option maxRecDepth 20000 in
theorem ggL_bar_X4_bar : GoodIn wsL_bar wsX4_bar := goodIn_ca (goodIn_ca (goodIn_ca (goodIn_r _ [8, 9, 10, 11, 12, 13, 14, 7, 15, 16, 17, 18, 19, 20, 21, 22, 23, 24, 25, 26, 27, 28, 29, 30, 31, 32, 33, 34, 35, 36, 37, 38, 39, 40, 41, 42, 43, 44, 45, 46, 47, 48, 49, 50, 51, 52, 53, 54, 55, 56, 57, 58, 59, 60, 61, 62, 63, 64, 65, 66, 67, 68, 69, 70, 71, 72, 73, 74, 75, 76, 77, 78, 79, 80, 81, 82, 83, 84, 85, 86, 87, 88, 89, 90, 91, 92, 93, 94, 95, 96, 97, 98, 99, 100, 101, 102, 103, 104, 105, 106, 107, 108, 109, 110, 111, 112, 113, 114] (by decide +kernel) (by decide +kernel)) (goodIn_sub (fun _ h => List.mem_cons_of_mem _ (List.mem_append_left _ (List.mem_append_left _ (List.mem_append_right _ h)))) (by decide +kernel))) (goodIn_sub (fun _ h => List.mem_cons_of_mem _ (List.mem_append_left _ (List.mem_append_right _ h))) (by decide +kernel))) (goodIn_sub (fun _ h => List.mem_cons_of_mem _ (List.mem_append_right _ h)) (by decide +kernel))
set_option maxRecDepth 20000 in
theorem gL_bar_X4_bar : GoodIn wsL_bar (wsV RL 27 RX4 yX4_bar wsX4_bar) := goodIn_app (goodIn_of _ (by decide +kernel)) ggL_bar_X4_bar
theorem dL_bar_0 : decode cL_bar 0 = .ok (.aload 4, 2) := by decide +kernel
theorem dL_bar_2 : decode cL_bar 2 = .ok (.iconst 0, 1) := by decide +kernel
theorem dL_bar_3 : decode cL_bar 3 = .ok (.aload_n 0, 1) := by decide +kernel
theorem dL_bar_4 : decode cL_bar 4 = .ok (.iload_n 1, 1) := by decide +kernel
theorem dL_bar_5 : decode cL_bar 5 = .ok (.iload_n 2, 1) := by decide +kernel
theorem dL_bar_6 : decode cL_bar 6 = .ok (.iload_n 3, 1) := by decide +kernel
theorem dL_bar_7 : decode cL_bar 7 = .ok (.invokevirtual 27, 3) := by decide +kernel
theorem dL_bar_10 : decode cL_bar 10 = .ok (.i2l, 1) := by decide +kernel
theorem dL_bar_11 : decode cL_bar 11 = .ok (.lastore, 1) := by decide +kernel
theorem dL_bar_12 : decode cL_bar 12 = .ok (.goto 15, 3) := by decide +kernel
theorem dL_bar_15 : decode cL_bar 15 = .ok (.astore 5, 2) := by decide +kernel
theorem dL_bar_17 : decode cL_bar 17 = .ok (.iconst 1, 1) := by decide +kernel
theorem dL_bar_18 : decode cL_bar 18 = .ok (.ireturn, 1) := by decide +kernel
theorem dL_bar_19 : decode cL_bar 19 = .ok (.astore 5, 2) := by decide +kernel
theorem dL_bar_21 : decode cL_bar 21 = .ok (.iconst 2, 1) := by decide +kernel
theorem dL_bar_22 : decode cL_bar 22 = .ok (.ireturn, 1) := by decide +kernel
theorem dL_bar_23 : decode cL_bar 23 = .ok (.astore 5, 2) := by decide +kernel
theorem dL_bar_25 : decode cL_bar 25 = .ok (.iconst 3, 1) := by decide +kernel
theorem dL_bar_26 : decode cL_bar 26 = .ok (.ireturn, 1) := by decide +kernel
theorem dL_bar_27 : decode cL_bar 27 = .ok (.iconst 0, 1) := by decide +kernel
theorem dL_bar_28 : decode cL_bar 28 = .ok (.ireturn, 1) := by decide +kernel
set_option maxRecDepth 20000 in
theorem ggL_unbar_X4_unbar : GoodIn wsL_unbar wsX4_unbar := goodIn_ca (goodIn_ca (goodIn_r _ [7, 8, 9, 10, 11, 12, 13, 6, 14, 15, 16, 17, 18, 19, 20, 21, 22, 23, 24, 25, 26, 27, 28, 29, 30, 31, 32, 33, 34, 35, 36, 37, 38, 39, 40, 41, 42, 43, 44, 45, 46, 47, 48, 49, 50, 51, 52, 53, 54, 55, 56, 57, 58, 59, 60, 61, 62, 63, 64, 65, 66, 67, 68, 69, 70, 71, 72, 73, 74, 75, 76, 77, 78, 79, 80, 81, 82, 83, 84, 85, 86, 87, 88, 89, 90, 91, 92, 93, 94, 95, 96, 97, 98, 99, 100, 101, 102, 103, 104, 105, 106, 107, 108, 109] (by decide +kernel) (by decide +kernel)) (goodIn_sub (fun _ h => List.mem_cons_of_mem _ (List.mem_append_left _ (List.mem_append_right _ h))) (by decide +kernel))) (goodIn_sub (fun _ h => List.mem_cons_of_mem _ (List.mem_append_right _ h)) (by decide +kernel))
set_option maxRecDepth 20000 in
theorem gL_unbar_X4_unbar : GoodIn wsL_unbar (wsV RL 33 RX4 yX4_unbar wsX4_unbar) := goodIn_app (goodIn_of _ (by decide +kernel)) ggL_unbar_X4_unbar
theorem dL_unbar_0 : decode cL_unbar 0 = .ok (.aload_n 2, 1) := by decide +kernel
theorem dL_unbar_1 : decode cL_unbar 1 = .ok (.iconst 0, 1) := by decide +kernel
theorem dL_unbar_2 : decode cL_unbar 2 = .ok (.aload_n 0, 1) := by decide +kernel
theorem dL_unbar_3 : decode cL_unbar 3 = .ok (.iload_n 1, 1) := by decide +kernel
theorem dL_unbar_4 : decode cL_unbar 4 = .ok (.invokevirtual 33, 3) := by decide +kernel
theorem dL_unbar_7 : decode cL_unbar 7 = .ok (.i2l, 1) := by decide +kernel
theorem dL_unbar_8 : decode cL_unbar 8 = .ok (.lastore, 1) := by decide +kernel
theorem dL_unbar_9 : decode cL_unbar 9 = .ok (.goto 9, 3) := by decide +kernel
theorem dL_unbar_12 : decode cL_unbar 12 = .ok (.astore_n 3, 1) := by decide +kernel
theorem dL_unbar_13 : decode cL_unbar 13 = .ok (.iconst 1, 1) := by decide +kernel
theorem dL_unbar_14 : decode cL_unbar 14 = .ok (.ireturn, 1) := by decide +kernel
theorem dL_unbar_15 : decode cL_unbar 15 = .ok (.astore_n 3, 1) := by decide +kernel
theorem dL_unbar_16 : decode cL_unbar 16 = .ok (.iconst 2, 1) := by decide +kernel
theorem dL_unbar_17 : decode cL_unbar 17 = .ok (.ireturn, 1) := by decide +kernel
theorem dL_unbar_18 : decode cL_unbar 18 = .ok (.iconst 0, 1) := by decide +kernel
theorem dL_unbar_19 : decode cL_unbar 19 = .ok (.ireturn, 1) := by decide +kernel
set_option maxRecDepth 20000 in
theorem ggL_coil_X4_coil : GoodIn wsL_coil wsX4_coil := goodIn_ca (goodIn_r _ [6, 7, 8, 9, 10, 5, 11, 12, 13, 14, 15, 16, 17, 18, 19, 20, 21, 22, 23, 24, 25, 26, 27, 28, 29, 30, 31, 32, 33, 34, 35, 36, 37, 38, 39, 40, 41, 42, 43, 44, 45, 46, 47, 48, 49, 50, 51, 52, 53, 54, 55, 56, 57, 58, 59, 60, 61, 62, 63, 64, 65, 66, 67, 68, 69, 70, 71, 72, 73, 74, 75, 76, 77, 78, 79, 80, 81, 82, 83, 84, 85, 86, 87, 88, 89, 90, 91, 92, 93, 94, 95, 96] (by decide +kernel) (by decide +kernel)) (goodIn_sub (fun _ h => List.mem_cons_of_mem _ (List.mem_append_right _ h)) (by decide +kernel))
set_option maxRecDepth 20000 in
theorem gL_coil_X4_coil : GoodIn wsL_coil (wsV RL 37 RX4 yX4_coil wsX4_coil) := goodIn_app (goodIn_of _ (by decide +kernel)) ggL_coil_X4_coil
theorem dL_coil_0 : decode cL_coil 0 = .ok (.aload_n 3, 1) := by decide +kernel
theorem dL_coil_1 : decode cL_coil 1 = .ok (.iconst 0, 1) := by decide +kernel
theorem dL_coil_2 : decode cL_coil 2 = .ok (.aload_n 0, 1) := by decide +kernel
theorem dL_coil_3 : decode cL_coil 3 = .ok (.iload_n 1, 1) := by decide +kernel
theorem dL_coil_4 : decode cL_coil 4 = .ok (.iload_n 2, 1) := by decide +kernel
theorem dL_coil_5 : decode cL_coil 5 = .ok (.invokevirtual 37, 3) := by decide +kernel
theorem dL_coil_8 : decode cL_coil 8 = .ok (.i2l, 1) := by decide +kernel
theorem dL_coil_9 : decode cL_coil 9 = .ok (.lastore, 1) := by decide +kernel
theorem dL_coil_10 : decode cL_coil 10 = .ok (.goto 7, 3) := by decide +kernel
theorem dL_coil_13 : decode cL_coil 13 = .ok (.astore 4, 2) := by decide +kernel
theorem dL_coil_15 : decode cL_coil 15 = .ok (.iconst 1, 1) := by decide +kernel
theorem dL_coil_16 : decode cL_coil 16 = .ok (.ireturn, 1) := by decide +kernel
theorem dL_coil_17 : decode cL_coil 17 = .ok (.iconst 0, 1) := by decide +kernel
theorem dL_coil_18 : decode cL_coil 18 = .ok (.ireturn, 1) := by decide +kernel
set_option maxRecDepth 20000 in
theorem ggL_set_X4_set : GoodIn wsL_set wsX4_set := goodIn_ca (goodIn_ca (goodIn_r _ [7, 8, 9, 10, 11, 12, 6, 13, 14, 15, 16, 17, 18, 19, 20, 21, 22, 23, 24, 25, 26, 27, 28, 29, 30, 31, 32, 33, 34, 35, 36, 37, 38, 39, 40, 41, 42, 43, 44, 45, 46, 47, 48, 49, 50, 51, 52, 53, 54, 55, 56, 57, 58, 59, 60, 61, 62, 63, 64, 65, 66, 67, 68, 69, 70, 71, 72, 73, 74, 75, 76, 77, 78, 79, 80, 81, 82, 83, 84, 85, 86, 87, 88, 89, 90, 91, 92, 93, 94, 95, 96, 97, 98, 99, 100] (by decide +kernel) (by decide +kernel)) (goodIn_sub (fun _ h => List.mem_cons_of_mem _ (List.mem_append_left _ (List.mem_append_right _ h))) (by decide +kernel))) (goodIn_sub (fun _ h => List.mem_cons_of_mem _ (List.mem_append_right _ h)) (by decide +kernel))
set_option maxRecDepth 20000 in
theorem gL_set_X4_set : GoodIn wsL_set (wsV RL 40 RX4 yX4_set wsX4_set) := goodIn_app (goodIn_of _ (by decide +kernel)) ggL_set_X4_set
theorem dL_set_0 : decode cL_set 0 = .ok (.aload_n 3, 1) := by decide +kernel
theorem dL_set_1 : decode cL_set 1 = .ok (.iconst 0, 1) := by decide +kernel
theorem dL_set_2 : decode cL_set 2 = .ok (.aload_n 0, 1) := by decide +kernel
theorem dL_set_3 : decode cL_set 3 = .ok (.iload_n 1, 1) := by decide +kernel
theorem dL_set_4 : decode cL_set 4 = .ok (.iload_n 2, 1) := by decide +kernel
theorem dL_set_5 : decode cL_set 5 = .ok (.invokevirtual 40, 3) := by decide +kernel
theorem dL_set_8 : decode cL_set 8 = .ok (.i2l, 1) := by decide +kernel
theorem dL_set_9 : decode cL_set 9 = .ok (.lastore, 1) := by decide +kernel
theorem dL_set_10 : decode cL_set 10 = .ok (.goto 11, 3) := by decide +kernel
theorem dL_set_13 : decode cL_set 13 = .ok (.astore 4, 2) := by decide +kernel
theorem dL_set_15 : decode cL_set 15 = .ok (.iconst 1, 1) := by decide +kernel
theorem dL_set_16 : decode cL_set 16 = .ok (.ireturn, 1) := by decide +kernel
theorem dL_set_17 : decode cL_set 17 = .ok (.astore 4, 2) := by decide +kernel
theorem dL_set_19 : decode cL_set 19 = .ok (.iconst 2, 1) := by decide +kernel
theorem dL_set_20 : decode cL_set 20 = .ok (.ireturn, 1) := by decide +kernel
theorem dL_set_21 : decode cL_set 21 = .ok (.iconst 0, 1) := by decide +kernel
theorem dL_set_22 : decode cL_set 22 = .ok (.ireturn, 1) := by decide +kernel
set_option maxRecDepth 20000 in
theorem ggL_step_X4_step : GoodIn wsL_step wsX4_step := goodIn_ca (goodIn_r _ [6, 7, 8, 9, 10, 5, 11, 12, 13, 14, 15, 16, 17, 18, 19, 20, 21, 22, 23, 24, 25, 26, 27, 28, 29, 30, 31, 32, 33, 34, 35, 36, 37, 38, 39, 40, 41, 42, 43, 44, 45, 46, 47, 48, 49, 50, 51, 52, 53, 54, 55, 56, 57, 58, 59, 60, 61, 62, 63, 64, 65, 66, 67, 68, 69, 70, 71, 72, 73, 74, 75, 76, 77, 78, 79, 80, 81, 82, 83, 84, 85, 86, 87, 88, 89, 90, 91, 92, 93] (by decide +kernel) (by decide +kernel)) (goodIn_sub (fun _ h => List.mem_cons_of_mem _ (List.mem_append_right _ h)) (by decide +kernel))
set_option maxRecDepth 20000 in
theorem gL_step_X4_step : GoodIn wsL_step (wsV RL 43 RX4 yX4_step wsX4_step) := goodIn_app (goodIn_of _ (by decide +kernel)) ggL_step_X4_step
theorem dL_step_0 : decode cL_step 0 = .ok (.aload_n 2, 1) := by decide +kernel
theorem dL_step_1 : decode cL_step 1 = .ok (.iconst 0, 1) := by decide +kernel
theorem dL_step_2 : decode cL_step 2 = .ok (.aload_n 0, 1) := by decide +kernel
theorem dL_step_3 : decode cL_step 3 = .ok (.iload_n 1, 1) := by decide +kernel
theorem dL_step_4 : decode cL_step 4 = .ok (.invokevirtual 43, 3) := by decide +kernel
theorem dL_step_7 : decode cL_step 7 = .ok (.i2l, 1) := by decide +kernel
theorem dL_step_8 : decode cL_step 8 = .ok (.lastore, 1) := by decide +kernel
theorem dL_step_9 : decode cL_step 9 = .ok (.goto 6, 3) := by decide +kernel
theorem dL_step_12 : decode cL_step 12 = .ok (.astore_n 3, 1) := by decide +kernel
theorem dL_step_13 : decode cL_step 13 = .ok (.iconst 1, 1) := by decide +kernel
theorem dL_step_14 : decode cL_step 14 = .ok (.ireturn, 1) := by decide +kernel
theorem dL_step_15 : decode cL_step 15 = .ok (.iconst 0, 1) := by decide +kernel
theorem dL_step_16 : decode cL_step 16 = .ok (.ireturn, 1) := by decide +kernel
set_option maxRecDepth 20000 in
theorem ggL_append_X4_append : GoodIn wsL_append wsX4_append := goodIn_ca (goodIn_ca (goodIn_r _ [7, 8, 9, 10, 11, 12, 6, 13, 14, 15, 16, 17, 18, 19, 20, 21, 22, 23, 24, 25, 26, 27, 28, 29] (by decide +kernel) (by decide +kernel)) (goodIn_sub (fun _ h => List.mem_cons_of_mem _ (List.mem_append_left _ (List.mem_append_right _ h))) (by decide +kernel))) (goodIn_sub (fun _ h => List.mem_cons_of_mem _ (List.mem_append_right _ h)) (by decide +kernel))
set_option maxRecDepth 20000 in
theorem gL_append_X4_append : GoodIn wsL_append (wsV RL 46 RX4 yX4_append wsX4_append) := goodIn_app (goodIn_of _ (by decide +kernel)) ggL_append_X4_append
theorem dL_append_0 : decode cL_append 0 = .ok (.aload_n 2, 1) := by decide +kernel
theorem dL_append_1 : decode cL_append 1 = .ok (.iconst 0, 1) := by decide +kernel
theorem dL_append_2 : decode cL_append 2 = .ok (.aload_n 0, 1) := by decide +kernel
theorem dL_append_3 : decode cL_append 3 = .ok (.iload_n 1, 1) := by decide +kernel
theorem dL_append_4 : decode cL_append 4 = .ok (.invokevirtual 46, 3) := by decide +kernel
theorem dL_append_7 : decode cL_append 7 = .ok (.i2l, 1) := by decide +kernel
theorem dL_append_8 : decode cL_append 8 = .ok (.lastore, 1) := by decide +kernel
theorem dL_append_9 : decode cL_append 9 = .ok (.goto 9, 3) := by decide +kernel
theorem dL_append_12 : decode cL_append 12 = .ok (.astore_n 3, 1) := by decide +kernel
theorem dL_append_13 : decode cL_append 13 = .ok (.iconst 1, 1) := by decide +kernel
theorem dL_append_14 : decode cL_append 14 = .ok (.ireturn, 1) := by decide +kernel
theorem dL_append_15 : decode cL_append 15 = .ok (.astore_n 3, 1) := by decide +kernel
theorem dL_append_16 : decode cL_append 16 = .ok (.iconst 2, 1) := by decide +kernel
theorem dL_append_17 : decode cL_append 17 = .ok (.ireturn, 1) := by decide +kernel
theorem dL_append_18 : decode cL_append 18 = .ok (.iconst 0, 1) := by decide +kernel
theorem dL_append_19 : decode cL_append 19 = .ok (.ireturn, 1) := by decide +kernel
set_option maxRecDepth 20000 in
theorem ggL_bars_X4_bars : GoodIn wsL_bars wsX4_bars := goodIn_ca (goodIn_r _ [6, 7, 8, 9, 10, 11, 12, 13, 14, 15, 16, 17, 18, 19, 20, 21, 22, 23, 24, 25, 26, 27, 28, 29, 30, 31, 32, 33, 34, 35, 36, 37, 38, 39, 40, 41, 42, 43, 44, 45, 46, 47, 48, 49, 50, 51, 52, 53, 54, 55, 56, 57, 58, 59, 60, 61, 62, 63, 64, 65, 66, 67, 68, 69, 70, 71, 72, 73, 74, 75, 76, 77, 78, 79, 80, 81, 82, 83, 84, 85, 86, 87, 88, 89, 90, 91, 92, 93, 94, 95, 96, 97, 98, 99, 100, 101, 102, 5, 103, 104, 105, 106, 107, 108, 109, 110, 111, 112, 113, 114, 115, 116, 117, 118, 119, 120, 121, 122, 123, 124, 125, 126, 127, 128, 129, 130, 131, 132, 133, 134, 135, 136, 137, 138, 139, 140, 141, 142, 143, 144, 145, 146, 147, 148, 149, 150, 151, 152, 153, 154, 155, 156, 157, 158, 159, 160, 161, 162, 163, 164] (by decide +kernel) (by decide +kernel)) (goodIn_sub (fun _ h => List.mem_cons_of_mem _ (List.mem_append_right _ h)) (by decide +kernel))
set_option maxRecDepth 20000 in
theorem gL_bars_X4_bars : GoodIn wsL_bars (wsV RL 49 RX4 yX4_bars wsX4_bars) := goodIn_app (goodIn_of _ (by decide +kernel)) ggL_bars_X4_bars
theorem dL_bars_0 : decode cL_bars 0 = .ok (.aload_n 1, 1) := by decide +kernel
theorem dL_bars_1 : decode cL_bars 1 = .ok (.iconst 0, 1) := by decide +kernel
theorem dL_bars_2 : decode cL_bars 2 = .ok (.aload_n 0, 1) := by decide +kernel
theorem dL_bars_3 : decode cL_bars 3 = .ok (.invokevirtual 49, 3) := by decide +kernel
theorem dL_bars_6 : decode cL_bars 6 = .ok (.i2l, 1) := by decide +kernel
theorem dL_bars_7 : decode cL_bars 7 = .ok (.lastore, 1) := by decide +kernel
theorem dL_bars_8 : decode cL_bars 8 = .ok (.goto 6, 3) := by decide +kernel
theorem dL_bars_11 : decode cL_bars 11 = .ok (.astore_n 2, 1) := by decide +kernel
theorem dL_bars_12 : decode cL_bars 12 = .ok (.iconst 1, 1) := by decide +kernel
theorem dL_bars_13 : decode cL_bars 13 = .ok (.ireturn, 1) := by decide +kernel
theorem dL_bars_14 : decode cL_bars 14 = .ok (.iconst 0, 1) := by decide +kernel
theorem dL_bars_15 : decode cL_bars 15 = .ok (.ireturn, 1) := by decide +kernel
set_option maxRecDepth 20000 in
theorem ggL_undo_X4_undo : GoodIn wsL_undo wsX4_undo := goodIn_ca (goodIn_r _ [6, 7, 8, 9, 10, 11, 12, 13, 14, 15, 16, 17, 18, 19, 20, 21, 22, 23, 24, 25, 26, 27, 28, 29, 30, 31, 32, 33, 34, 35, 36, 37, 38, 39, 40, 41, 42, 43, 44, 45, 46, 47, 48, 49, 50, 51, 52, 53, 54, 55, 56] (by decide +kernel) (by decide +kernel)) (goodIn_sub (fun _ h => List.mem_cons_of_mem _ (List.mem_append_right _ h)) (by decide +kernel))
set_option maxRecDepth 20000 in
theorem gL_undo_X4_undo : GoodIn wsL_undo (wsV RL 53 RX4 yX4_undo wsX4_undo) := goodIn_app (goodIn_of _ (by decide +kernel)) ggL_undo_X4_undo
theorem dL_undo_0 : decode cL_undo 0 = .ok (.aload_n 1, 1) := by decide +kernel
theorem dL_undo_1 : decode cL_undo 1 = .ok (.iconst 0, 1) := by decide +kernel
theorem dL_undo_2 : decode cL_undo 2 = .ok (.aload_n 0, 1) := by decide +kernel
theorem dL_undo_3 : decode cL_undo 3 = .ok (.invokevirtual 53, 3) := by decide +kernel
theorem dL_undo_6 : decode cL_undo 6 = .ok (.i2l, 1) := by decide +kernel
theorem dL_undo_7 : decode cL_undo 7 = .ok (.lastore, 1) := by decide +kernel
theorem dL_undo_8 : decode cL_undo 8 = .ok (.goto 6, 3) := by decide +kernel
theorem dL_undo_11 : decode cL_undo 11 = .ok (.astore_n 2, 1) := by decide +kernel
theorem dL_undo_12 : decode cL_undo 12 = .ok (.iconst 1, 1) := by decide +kernel
theorem dL_undo_13 : decode cL_undo 13 = .ok (.ireturn, 1) := by decide +kernel
theorem dL_undo_14 : decode cL_undo 14 = .ok (.iconst 0, 1) := by decide +kernel
theorem dL_undo_15 : decode cL_undo 15 = .ok (.ireturn, 1) := by decide +kernel
set_option maxRecDepth 20000 in
theorem ggL_cell_X4_cell : GoodIn wsL_cell wsX4_cell := goodIn_ca (goodIn_ca (goodIn_r _ [7, 8, 9, 10, 11, 12, 13, 6, 14, 15, 16, 17, 18, 19, 20, 21, 22, 23, 24, 25, 26, 27, 28, 29, 30, 31, 32, 33, 34, 35, 36, 37, 38, 39, 40, 41, 42, 43, 44, 45, 46, 47, 48, 49, 50, 51, 52, 53, 54, 55, 56, 57, 58, 59, 60] (by decide +kernel) (by decide +kernel)) (goodIn_sub (fun _ h => List.mem_cons_of_mem _ (List.mem_append_left _ (List.mem_append_right _ h))) (by decide +kernel))) (goodIn_sub (fun _ h => List.mem_cons_of_mem _ (List.mem_append_right _ h)) (by decide +kernel))
set_option maxRecDepth 20000 in
theorem gL_cell_X4_cell : GoodIn wsL_cell (wsV RL 56 RX4 yX4_cell wsX4_cell) := goodIn_app (goodIn_of _ (by decide +kernel)) ggL_cell_X4_cell
theorem dL_cell_0 : decode cL_cell 0 = .ok (.aload_n 3, 1) := by decide +kernel
theorem dL_cell_1 : decode cL_cell 1 = .ok (.iconst 0, 1) := by decide +kernel
theorem dL_cell_2 : decode cL_cell 2 = .ok (.aload_n 0, 1) := by decide +kernel
theorem dL_cell_3 : decode cL_cell 3 = .ok (.iload_n 1, 1) := by decide +kernel
theorem dL_cell_4 : decode cL_cell 4 = .ok (.iload_n 2, 1) := by decide +kernel
theorem dL_cell_5 : decode cL_cell 5 = .ok (.invokevirtual 56, 3) := by decide +kernel
theorem dL_cell_8 : decode cL_cell 8 = .ok (.i2l, 1) := by decide +kernel
theorem dL_cell_9 : decode cL_cell 9 = .ok (.lastore, 1) := by decide +kernel
theorem dL_cell_10 : decode cL_cell 10 = .ok (.goto 11, 3) := by decide +kernel
theorem dL_cell_13 : decode cL_cell 13 = .ok (.astore 4, 2) := by decide +kernel
theorem dL_cell_15 : decode cL_cell 15 = .ok (.iconst 1, 1) := by decide +kernel
theorem dL_cell_16 : decode cL_cell 16 = .ok (.ireturn, 1) := by decide +kernel
theorem dL_cell_17 : decode cL_cell 17 = .ok (.astore 4, 2) := by decide +kernel
theorem dL_cell_19 : decode cL_cell 19 = .ok (.iconst 2, 1) := by decide +kernel
theorem dL_cell_20 : decode cL_cell 20 = .ok (.ireturn, 1) := by decide +kernel
theorem dL_cell_21 : decode cL_cell 21 = .ok (.iconst 0, 1) := by decide +kernel
theorem dL_cell_22 : decode cL_cell 22 = .ok (.ireturn, 1) := by decide +kernel
set_option maxRecDepth 20000 in
theorem ggL_barOf_X4_barOf : GoodIn wsL_barOf wsX4_barOf := goodIn_ca (goodIn_r _ [6, 7, 8, 9, 10, 11, 5, 12, 13, 14, 15, 16, 17, 18, 19, 20, 21, 22, 23, 24, 25, 26, 27, 28, 29, 30, 31, 32, 33, 34, 35, 36, 37, 38, 39] (by decide +kernel) (by decide +kernel)) (goodIn_sub (fun _ h => List.mem_cons_of_mem _ (List.mem_append_right _ h)) (by decide +kernel))
set_option maxRecDepth 20000 in
theorem gL_barOf_X4_barOf : GoodIn wsL_barOf (wsV RL 59 RX4 yX4_barOf wsX4_barOf) := goodIn_app (goodIn_of _ (by decide +kernel)) ggL_barOf_X4_barOf
theorem dL_barOf_0 : decode cL_barOf 0 = .ok (.aload_n 3, 1) := by decide +kernel
theorem dL_barOf_1 : decode cL_barOf 1 = .ok (.iconst 0, 1) := by decide +kernel
theorem dL_barOf_2 : decode cL_barOf 2 = .ok (.aload_n 0, 1) := by decide +kernel
theorem dL_barOf_3 : decode cL_barOf 3 = .ok (.iload_n 1, 1) := by decide +kernel
theorem dL_barOf_4 : decode cL_barOf 4 = .ok (.iload_n 2, 1) := by decide +kernel
theorem dL_barOf_5 : decode cL_barOf 5 = .ok (.invokevirtual 59, 3) := by decide +kernel
theorem dL_barOf_8 : decode cL_barOf 8 = .ok (.i2l, 1) := by decide +kernel
theorem dL_barOf_9 : decode cL_barOf 9 = .ok (.lastore, 1) := by decide +kernel
theorem dL_barOf_10 : decode cL_barOf 10 = .ok (.goto 7, 3) := by decide +kernel
theorem dL_barOf_13 : decode cL_barOf 13 = .ok (.astore 4, 2) := by decide +kernel
theorem dL_barOf_15 : decode cL_barOf 15 = .ok (.iconst 1, 1) := by decide +kernel
theorem dL_barOf_16 : decode cL_barOf 16 = .ok (.ireturn, 1) := by decide +kernel
theorem dL_barOf_17 : decode cL_barOf 17 = .ok (.iconst 0, 1) := by decide +kernel
theorem dL_barOf_18 : decode cL_barOf 18 = .ok (.ireturn, 1) := by decide +kernel
set_option maxRecDepth 20000 in
theorem ggL_count_X4_count : GoodIn wsL_count wsX4_count := goodIn_ca (goodIn_r _ [6, 7, 8, 9, 10, 11, 12, 13, 14, 15, 16, 17, 18, 19, 20, 21, 22, 23, 24, 25, 26, 27, 28, 29, 30, 31, 32, 33, 34, 35, 36, 37, 38, 39, 40, 41, 42, 5, 43, 44, 45, 46, 47, 48, 49, 50, 51, 52, 53, 54, 55, 56, 57, 58, 59, 60, 61, 62, 63, 64, 65, 66, 67, 68, 69, 70, 71, 72, 73, 74, 75, 76, 77, 78, 79, 80, 81] (by decide +kernel) (by decide +kernel)) (goodIn_sub (fun _ h => List.mem_cons_of_mem _ (List.mem_append_right _ h)) (by decide +kernel))
set_option maxRecDepth 20000 in
theorem gL_count_X4_count : GoodIn wsL_count (wsV RL 62 RX4 yX4_count wsX4_count) := goodIn_app (goodIn_of _ (by decide +kernel)) ggL_count_X4_count
theorem dL_count_0 : decode cL_count 0 = .ok (.aload_n 2, 1) := by decide +kernel
theorem dL_count_1 : decode cL_count 1 = .ok (.iconst 0, 1) := by decide +kernel
theorem dL_count_2 : decode cL_count 2 = .ok (.aload_n 0, 1) := by decide +kernel
theorem dL_count_3 : decode cL_count 3 = .ok (.iload_n 1, 1) := by decide +kernel
theorem dL_count_4 : decode cL_count 4 = .ok (.invokevirtual 62, 3) := by decide +kernel
theorem dL_count_7 : decode cL_count 7 = .ok (.i2l, 1) := by decide +kernel
theorem dL_count_8 : decode cL_count 8 = .ok (.lastore, 1) := by decide +kernel
theorem dL_count_9 : decode cL_count 9 = .ok (.goto 6, 3) := by decide +kernel
theorem dL_count_12 : decode cL_count 12 = .ok (.astore_n 3, 1) := by decide +kernel
theorem dL_count_13 : decode cL_count 13 = .ok (.iconst 1, 1) := by decide +kernel
theorem dL_count_14 : decode cL_count 14 = .ok (.ireturn, 1) := by decide +kernel
theorem dL_count_15 : decode cL_count 15 = .ok (.iconst 0, 1) := by decide +kernel
theorem dL_count_16 : decode cL_count 16 = .ok (.ireturn, 1) := by decide +kernel
set_option maxRecDepth 20000 in
theorem ggL_pointing_X4_pointing : GoodIn wsL_pointing wsX4_pointing := goodIn_ca (goodIn_r _ [6, 7, 8, 9, 5, 10, 11, 12, 13, 14, 15, 16, 17, 18, 19, 20, 21, 22, 23, 24, 25, 26, 27, 28, 29, 30, 31, 32, 33, 34, 35, 36, 37, 38] (by decide +kernel) (by decide +kernel)) (goodIn_sub (fun _ h => List.mem_cons_of_mem _ (List.mem_append_right _ h)) (by decide +kernel))
set_option maxRecDepth 20000 in
theorem gL_pointing_X4_pointing : GoodIn wsL_pointing (wsV RL 65 RX4 yX4_pointing wsX4_pointing) := goodIn_app (goodIn_of _ (by decide +kernel)) ggL_pointing_X4_pointing
theorem dL_pointing_0 : decode cL_pointing 0 = .ok (.aload_n 2, 1) := by decide +kernel
theorem dL_pointing_1 : decode cL_pointing 1 = .ok (.iconst 0, 1) := by decide +kernel
theorem dL_pointing_2 : decode cL_pointing 2 = .ok (.aload_n 0, 1) := by decide +kernel
theorem dL_pointing_3 : decode cL_pointing 3 = .ok (.iload_n 1, 1) := by decide +kernel
theorem dL_pointing_4 : decode cL_pointing 4 = .ok (.invokevirtual 65, 3) := by decide +kernel
theorem dL_pointing_7 : decode cL_pointing 7 = .ok (.i2l, 1) := by decide +kernel
theorem dL_pointing_8 : decode cL_pointing 8 = .ok (.lastore, 1) := by decide +kernel
theorem dL_pointing_9 : decode cL_pointing 9 = .ok (.goto 6, 3) := by decide +kernel
theorem dL_pointing_12 : decode cL_pointing 12 = .ok (.astore_n 3, 1) := by decide +kernel
theorem dL_pointing_13 : decode cL_pointing 13 = .ok (.iconst 1, 1) := by decide +kernel
theorem dL_pointing_14 : decode cL_pointing 14 = .ok (.ireturn, 1) := by decide +kernel
theorem dL_pointing_15 : decode cL_pointing 15 = .ok (.iconst 0, 1) := by decide +kernel
theorem dL_pointing_16 : decode cL_pointing 16 = .ok (.ireturn, 1) := by decide +kernel
set_option maxRecDepth 20000 in
theorem ggL_setting_X4_setting : GoodIn wsL_setting wsX4_setting := goodIn_ca (goodIn_r _ [6, 7, 8, 9, 5, 10, 11, 12, 13, 14, 15, 16, 17, 18, 19, 20, 21, 22, 23, 24, 25, 26, 27, 28, 29] (by decide +kernel) (by decide +kernel)) (goodIn_sub (fun _ h => List.mem_cons_of_mem _ (List.mem_append_right _ h)) (by decide +kernel))
set_option maxRecDepth 20000 in
theorem gL_setting_X4_setting : GoodIn wsL_setting (wsV RL 68 RX4 yX4_setting wsX4_setting) := goodIn_app (goodIn_of _ (by decide +kernel)) ggL_setting_X4_setting
theorem dL_setting_0 : decode cL_setting 0 = .ok (.aload_n 2, 1) := by decide +kernel
theorem dL_setting_1 : decode cL_setting 1 = .ok (.iconst 0, 1) := by decide +kernel
theorem dL_setting_2 : decode cL_setting 2 = .ok (.aload_n 0, 1) := by decide +kernel
theorem dL_setting_3 : decode cL_setting 3 = .ok (.iload_n 1, 1) := by decide +kernel
theorem dL_setting_4 : decode cL_setting 4 = .ok (.invokevirtual 68, 3) := by decide +kernel
theorem dL_setting_7 : decode cL_setting 7 = .ok (.i2l, 1) := by decide +kernel
theorem dL_setting_8 : decode cL_setting 8 = .ok (.lastore, 1) := by decide +kernel
theorem dL_setting_9 : decode cL_setting 9 = .ok (.goto 6, 3) := by decide +kernel
theorem dL_setting_12 : decode cL_setting 12 = .ok (.astore_n 3, 1) := by decide +kernel
theorem dL_setting_13 : decode cL_setting 13 = .ok (.iconst 1, 1) := by decide +kernel
theorem dL_setting_14 : decode cL_setting 14 = .ok (.ireturn, 1) := by decide +kernel
theorem dL_setting_15 : decode cL_setting 15 = .ok (.iconst 0, 1) := by decide +kernel
theorem dL_setting_16 : decode cL_setting 16 = .ok (.ireturn, 1) := by decide +kernel
set_option maxRecDepth 20000 in
theorem ggL_points_X4_points : GoodIn wsL_points wsX4_points := goodIn_ca (goodIn_ca (goodIn_r _ [7, 8, 9, 10, 11, 6, 12, 13, 14, 15, 16, 17, 18, 19, 20, 21, 22, 23, 24, 25, 26, 27, 28, 29, 30, 31, 32, 33, 34, 35, 36, 37, 38, 39, 40, 41, 42, 43, 44, 45, 46, 47, 48, 49, 50, 51, 52, 53, 54, 55, 56, 57, 58, 59, 60, 61, 62, 63, 64, 65, 66, 67, 68, 69, 70, 71, 72, 73, 74, 75, 76, 77, 78, 79, 80, 81, 82, 83, 84, 85, 86, 87, 88] (by decide +kernel) (by decide +kernel)) (goodIn_sub (fun _ h => List.mem_cons_of_mem _ (List.mem_append_left _ (List.mem_append_right _ h))) (by decide +kernel))) (goodIn_sub (fun _ h => List.mem_cons_of_mem _ (List.mem_append_right _ h)) (by decide +kernel))
set_option maxRecDepth 20000 in
theorem gL_points_X4_points : GoodIn wsL_points (wsV RL 71 RX4 yX4_points wsX4_points) := goodIn_app (goodIn_of _ (by decide +kernel)) ggL_points_X4_points
theorem dL_points_0 : decode cL_points 0 = .ok (.aload_n 3, 1) := by decide +kernel
theorem dL_points_1 : decode cL_points 1 = .ok (.iconst 0, 1) := by decide +kernel
theorem dL_points_2 : decode cL_points 2 = .ok (.aload_n 0, 1) := by decide +kernel
theorem dL_points_3 : decode cL_points 3 = .ok (.iload_n 1, 1) := by decide +kernel
theorem dL_points_4 : decode cL_points 4 = .ok (.iload_n 2, 1) := by decide +kernel
theorem dL_points_5 : decode cL_points 5 = .ok (.invokevirtual 71, 3) := by decide +kernel
theorem dL_points_8 : decode cL_points 8 = .ok (.i2l, 1) := by decide +kernel
theorem dL_points_9 : decode cL_points 9 = .ok (.lastore, 1) := by decide +kernel
theorem dL_points_10 : decode cL_points 10 = .ok (.goto 11, 3) := by decide +kernel
theorem dL_points_13 : decode cL_points 13 = .ok (.astore 4, 2) := by decide +kernel
theorem dL_points_15 : decode cL_points 15 = .ok (.iconst 1, 1) := by decide +kernel
theorem dL_points_16 : decode cL_points 16 = .ok (.ireturn, 1) := by decide +kernel
theorem dL_points_17 : decode cL_points 17 = .ok (.astore 4, 2) := by decide +kernel
theorem dL_points_19 : decode cL_points 19 = .ok (.iconst 2, 1) := by decide +kernel
theorem dL_points_20 : decode cL_points 20 = .ok (.ireturn, 1) := by decide +kernel
theorem dL_points_21 : decode cL_points 21 = .ok (.iconst 0, 1) := by decide +kernel
theorem dL_points_22 : decode cL_points 22 = .ok (.ireturn, 1) := by decide +kernel
set_option maxRecDepth 20000 in
theorem ggL_ifBar_X4_ifBar : GoodIn wsL_ifBar wsX4_ifBar := goodIn_ca (goodIn_ca (goodIn_r _ [7, 8, 9, 10, 6, 11, 12, 13, 14, 15, 16, 17, 18, 19, 20, 21, 22, 23, 24, 25, 26, 27, 28, 29, 30, 31, 32, 33, 34, 35, 36, 37, 38, 39, 40, 41, 42, 43, 44, 45, 46, 47, 48, 49, 50, 51, 52, 53, 54, 55, 56, 57, 58, 59, 60, 61, 62, 63] (by decide +kernel) (by decide +kernel)) (goodIn_sub (fun _ h => List.mem_cons_of_mem _ (List.mem_append_left _ (List.mem_append_right _ h))) (by decide +kernel))) (goodIn_sub (fun _ h => List.mem_cons_of_mem _ (List.mem_append_right _ h)) (by decide +kernel))
set_option maxRecDepth 20000 in
theorem gL_ifBar_X4_ifBar : GoodIn wsL_ifBar (wsV RL 74 RX4 yX4_ifBar wsX4_ifBar) := goodIn_app (goodIn_of _ (by decide +kernel)) ggL_ifBar_X4_ifBar
theorem dL_ifBar_0 : decode cL_ifBar 0 = .ok (.aload 4, 2) := by decide +kernel
theorem dL_ifBar_2 : decode cL_ifBar 2 = .ok (.iconst 0, 1) := by decide +kernel
theorem dL_ifBar_3 : decode cL_ifBar 3 = .ok (.aload_n 0, 1) := by decide +kernel
theorem dL_ifBar_4 : decode cL_ifBar 4 = .ok (.iload_n 1, 1) := by decide +kernel
theorem dL_ifBar_5 : decode cL_ifBar 5 = .ok (.iload_n 2, 1) := by decide +kernel
theorem dL_ifBar_6 : decode cL_ifBar 6 = .ok (.iload_n 3, 1) := by decide +kernel
theorem dL_ifBar_7 : decode cL_ifBar 7 = .ok (.invokevirtual 74, 3) := by decide +kernel
theorem dL_ifBar_10 : decode cL_ifBar 10 = .ok (.i2l, 1) := by decide +kernel
theorem dL_ifBar_11 : decode cL_ifBar 11 = .ok (.lastore, 1) := by decide +kernel
theorem dL_ifBar_12 : decode cL_ifBar 12 = .ok (.goto 11, 3) := by decide +kernel
theorem dL_ifBar_15 : decode cL_ifBar 15 = .ok (.astore 5, 2) := by decide +kernel
theorem dL_ifBar_17 : decode cL_ifBar 17 = .ok (.iconst 1, 1) := by decide +kernel
theorem dL_ifBar_18 : decode cL_ifBar 18 = .ok (.ireturn, 1) := by decide +kernel
theorem dL_ifBar_19 : decode cL_ifBar 19 = .ok (.astore 5, 2) := by decide +kernel
theorem dL_ifBar_21 : decode cL_ifBar 21 = .ok (.iconst 2, 1) := by decide +kernel
theorem dL_ifBar_22 : decode cL_ifBar 22 = .ok (.ireturn, 1) := by decide +kernel
theorem dL_ifBar_23 : decode cL_ifBar 23 = .ok (.iconst 0, 1) := by decide +kernel
theorem dL_ifBar_24 : decode cL_ifBar 24 = .ok (.ireturn, 1) := by decide +kernel
set_option maxRecDepth 20000 in
theorem ggL_bestBar_X4_bestBar : GoodIn wsL_bestBar wsX4_bestBar := goodIn_ca (goodIn_ca (goodIn_r _ [7, 8, 9, 10, 6, 11, 12, 13, 14, 15, 16, 17, 18, 19, 20, 21, 22, 23, 24, 25, 26, 27, 28, 29, 30, 31, 32, 33, 34, 35, 36, 37, 38, 39, 40, 41, 42, 43, 44, 45, 46, 47, 48, 49, 50, 51, 52, 53, 54, 55, 56, 57, 58, 59] (by decide +kernel) (by decide +kernel)) (goodIn_sub (fun _ h => List.mem_cons_of_mem _ (List.mem_append_left _ (List.mem_append_right _ h))) (by decide +kernel))) (goodIn_sub (fun _ h => List.mem_cons_of_mem _ (List.mem_append_right _ h)) (by decide +kernel))
set_option maxRecDepth 20000 in
theorem gL_bestBar_X4_bestBar : GoodIn wsL_bestBar (wsV RL 77 RX4 yX4_bestBar wsX4_bestBar) := goodIn_app (goodIn_of _ (by decide +kernel)) ggL_bestBar_X4_bestBar
theorem dL_bestBar_0 : decode cL_bestBar 0 = .ok (.aload 4, 2) := by decide +kernel
theorem dL_bestBar_2 : decode cL_bestBar 2 = .ok (.iconst 0, 1) := by decide +kernel
theorem dL_bestBar_3 : decode cL_bestBar 3 = .ok (.aload_n 0, 1) := by decide +kernel
theorem dL_bestBar_4 : decode cL_bestBar 4 = .ok (.iload_n 1, 1) := by decide +kernel
theorem dL_bestBar_5 : decode cL_bestBar 5 = .ok (.iload_n 2, 1) := by decide +kernel
theorem dL_bestBar_6 : decode cL_bestBar 6 = .ok (.iload_n 3, 1) := by decide +kernel
theorem dL_bestBar_7 : decode cL_bestBar 7 = .ok (.invokevirtual 77, 3) := by decide +kernel
theorem dL_bestBar_10 : decode cL_bestBar 10 = .ok (.i2l, 1) := by decide +kernel
theorem dL_bestBar_11 : decode cL_bestBar 11 = .ok (.lastore, 1) := by decide +kernel
theorem dL_bestBar_12 : decode cL_bestBar 12 = .ok (.goto 11, 3) := by decide +kernel
theorem dL_bestBar_15 : decode cL_bestBar 15 = .ok (.astore 5, 2) := by decide +kernel
theorem dL_bestBar_17 : decode cL_bestBar 17 = .ok (.iconst 1, 1) := by decide +kernel
theorem dL_bestBar_18 : decode cL_bestBar 18 = .ok (.ireturn, 1) := by decide +kernel
theorem dL_bestBar_19 : decode cL_bestBar 19 = .ok (.astore 5, 2) := by decide +kernel
theorem dL_bestBar_21 : decode cL_bestBar 21 = .ok (.iconst 2, 1) := by decide +kernel
theorem dL_bestBar_22 : decode cL_bestBar 22 = .ok (.ireturn, 1) := by decide +kernel
theorem dL_bestBar_23 : decode cL_bestBar 23 = .ok (.iconst 0, 1) := by decide +kernel
theorem dL_bestBar_24 : decode cL_bestBar 24 = .ok (.ireturn, 1) := by decide +kernel
set_option maxRecDepth 20000 in
theorem ggL_leastTurns_X4_leastTurns : GoodIn wsL_leastTurns wsX4_leastTurns := goodIn_ca (goodIn_r _ [6, 7, 8, 9, 5, 10, 11, 12, 13, 14, 15, 16, 17, 18, 19, 20, 21, 22, 23, 24, 25, 26, 27, 28, 29, 30, 31, 32, 33, 34, 35, 36, 37, 38, 39, 40, 41, 42, 43, 44, 45, 46, 47] (by decide +kernel) (by decide +kernel)) (goodIn_sub (fun _ h => List.mem_cons_of_mem _ (List.mem_append_right _ h)) (by decide +kernel))
set_option maxRecDepth 20000 in
theorem gL_leastTurns_X4_leastTurns : GoodIn wsL_leastTurns (wsV RL 80 RX4 yX4_leastTurns wsX4_leastTurns) := goodIn_app (goodIn_of _ (by decide +kernel)) ggL_leastTurns_X4_leastTurns
theorem dL_leastTurns_0 : decode cL_leastTurns 0 = .ok (.aload_n 2, 1) := by decide +kernel
theorem dL_leastTurns_1 : decode cL_leastTurns 1 = .ok (.iconst 0, 1) := by decide +kernel
theorem dL_leastTurns_2 : decode cL_leastTurns 2 = .ok (.aload_n 0, 1) := by decide +kernel
theorem dL_leastTurns_3 : decode cL_leastTurns 3 = .ok (.iload_n 1, 1) := by decide +kernel
theorem dL_leastTurns_4 : decode cL_leastTurns 4 = .ok (.invokevirtual 80, 3) := by decide +kernel
theorem dL_leastTurns_7 : decode cL_leastTurns 7 = .ok (.i2l, 1) := by decide +kernel
theorem dL_leastTurns_8 : decode cL_leastTurns 8 = .ok (.lastore, 1) := by decide +kernel
theorem dL_leastTurns_9 : decode cL_leastTurns 9 = .ok (.goto 6, 3) := by decide +kernel
theorem dL_leastTurns_12 : decode cL_leastTurns 12 = .ok (.astore_n 3, 1) := by decide +kernel
theorem dL_leastTurns_13 : decode cL_leastTurns 13 = .ok (.iconst 1, 1) := by decide +kernel
theorem dL_leastTurns_14 : decode cL_leastTurns 14 = .ok (.ireturn, 1) := by decide +kernel
theorem dL_leastTurns_15 : decode cL_leastTurns 15 = .ok (.iconst 0, 1) := by decide +kernel
theorem dL_leastTurns_16 : decode cL_leastTurns 16 = .ok (.ireturn, 1) := by decide +kernel
