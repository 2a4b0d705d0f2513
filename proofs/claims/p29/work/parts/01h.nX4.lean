set_option maxRecDepth 20000 in
theorem ggX4_init_X2_init : GoodIn wsX4_init wsX2_init := goodIn_r _ [19, 20, 2, 3, 21, 22, 23, 24, 25, 26, 27, 28, 29, 30, 31, 32, 33, 34, 35, 6, 36, 37, 38, 39, 40, 41, 42, 43, 44, 45, 46, 47, 48, 49, 50, 51, 52, 53, 54, 55, 56, 57, 58, 59, 60, 61, 62, 63, 64, 65, 66, 67, 68, 69, 88, 89, 90, 91, 92, 93, 94, 95, 96, 97, 98, 99, 100] (by decide +kernel) (by decide +kernel)
set_option maxRecDepth 20000 in
theorem gX4_init_X2_init : GoodIn wsX4_init (wsX2_init) := ggX4_init_X2_init
set_option maxRecDepth 20000 in
theorem ggX4_init_X3_init : GoodIn wsX4_init wsX3_init := goodIn_r _ [72, 73, 2, 3, 74, 75, 5, 6, 76, 18, 19, 20, 21, 22, 23, 24, 25, 26, 27, 28, 29, 30, 31, 32, 33, 34, 35, 36, 37, 38, 39, 40, 41, 42, 43, 44, 45, 46, 47, 48, 49, 50, 51, 52, 53, 54, 55, 56, 57, 58, 59, 60, 61, 62, 63, 64, 65, 66, 67, 68, 69, 105, 106, 107, 88, 89, 90, 91, 92, 93, 94, 95, 96, 97, 98, 99, 100] (by decide +kernel) (by decide +kernel)
set_option maxRecDepth 20000 in
theorem gX4_init_X3_init : GoodIn wsX4_init (wsX3_init) := ggX4_init_X3_init
set_option maxRecDepth 20000 in
theorem ggX4_init_X1_init : GoodIn wsX4_init wsX1_init := goodIn_r _ [78, 79, 2, 3, 21, 80, 81, 82, 83, 84, 85, 86, 87, 108, 109, 110, 111, 112, 113, 114, 115, 116] (by decide +kernel) (by decide +kernel)
set_option maxRecDepth 20000 in
theorem gX4_init_X1_init_n28 : GoodIn wsX4_init (wsX1_init) := ggX4_init_X1_init
theorem dX4_init_0 : decode cX4_init 0 = .ok (.aload_n 0, 1) := by decide +kernel
theorem dX4_init_1 : decode cX4_init 1 = .ok (.invokespecial 3, 3) := by decide +kernel
theorem dX4_init_4 : decode cX4_init 4 = .ok (.aload_n 0, 1) := by decide +kernel
theorem dX4_init_5 : decode cX4_init 5 = .ok (.new 9, 3) := by decide +kernel
theorem dX4_init_8 : decode cX4_init 8 = .ok (.dup, 1) := by decide +kernel
theorem dX4_init_9 : decode cX4_init 9 = .ok (.invokespecial 11, 3) := by decide +kernel
theorem dX4_init_12 : decode cX4_init 12 = .ok (.putfield 12, 3) := by decide +kernel
theorem dX4_init_15 : decode cX4_init 15 = .ok (.aload_n 0, 1) := by decide +kernel
theorem dX4_init_16 : decode cX4_init 16 = .ok (.new 9, 3) := by decide +kernel
theorem dX4_init_19 : decode cX4_init 19 = .ok (.dup, 1) := by decide +kernel
theorem dX4_init_20 : decode cX4_init 20 = .ok (.invokespecial 11, 3) := by decide +kernel
theorem dX4_init_23 : decode cX4_init 23 = .ok (.putfield 16, 3) := by decide +kernel
theorem dX4_init_26 : decode cX4_init 26 = .ok (.aload_n 0, 1) := by decide +kernel
theorem dX4_init_27 : decode cX4_init 27 = .ok (.new 19, 3) := by decide +kernel
theorem dX4_init_30 : decode cX4_init 30 = .ok (.dup, 1) := by decide +kernel
theorem dX4_init_31 : decode cX4_init 31 = .ok (.invokespecial 21, 3) := by decide +kernel
theorem dX4_init_34 : decode cX4_init 34 = .ok (.putfield 22, 3) := by decide +kernel
theorem dX4_init_37 : decode cX4_init 37 = .ok (.aload_n 0, 1) := by decide +kernel
theorem dX4_init_38 : decode cX4_init 38 = .ok (.new 26, 3) := by decide +kernel
theorem dX4_init_41 : decode cX4_init 41 = .ok (.dup, 1) := by decide +kernel
theorem dX4_init_42 : decode cX4_init 42 = .ok (.invokespecial 28, 3) := by decide +kernel
theorem dX4_init_45 : decode cX4_init 45 = .ok (.putfield 29, 3) := by decide +kernel
theorem dX4_init_48 : decode cX4_init 48 = .ok (.return_, 1) := by decide +kernel
set_option maxRecDepth 20000 in
theorem ggX4_needle_X4_requireCell : GoodIn wsX4_needle wsX4_requireCell := goodIn_ca (goodIn_r _ [6, 7, 8] (by decide +kernel) (by decide +kernel)) (goodIn_sub (fun _ h => List.mem_cons_of_mem _ (List.mem_append_left _ (List.mem_append_right _ h))) (by decide +kernel))
set_option maxRecDepth 20000 in
theorem gX4_needle_X4_requireCell : GoodIn wsX4_needle (va_wsS RX4 33 yX4_requireCell wsX4_requireCell) := goodIn_app (goodIn_of _ (by decide +kernel)) ggX4_needle_X4_requireCell
set_option maxRecDepth 20000 in
theorem ggX4_needle_X4_requireDirection : GoodIn wsX4_needle wsX4_requireDirection := goodIn_ca (goodIn_r _ [11, 12, 13, 5, 14, 15, 16] (by decide +kernel) (by decide +kernel)) (goodIn_sub (fun _ h => List.mem_cons_of_mem _ (List.mem_append_right _ h)) (by decide +kernel))
set_option maxRecDepth 20000 in
theorem gX4_needle_X4_requireDirection : GoodIn wsX4_needle (va_wsS RX4 37 yX4_requireDirection wsX4_requireDirection) := goodIn_app (goodIn_of _ (by decide +kernel)) ggX4_needle_X4_requireDirection
set_option maxRecDepth 20000 in
theorem ggX4_needle_X3_save : GoodIn wsX4_needle wsX3_save := goodIn_r _ [21, 22, 23, 24, 25, 26, 27, 28, 29, 30, 31, 32, 33, 34, 35, 36, 37, 38, 39, 40, 41, 42, 78, 79, 80, 65, 66, 67, 68, 69, 70, 71, 72, 73, 74, 75, 76, 77] (by decide +kernel) (by decide +kernel)
set_option maxRecDepth 20000 in
theorem gX4_needle_X3_save : GoodIn wsX4_needle (wsV RX4 40 RX3 yX3_save wsX3_save) := goodIn_app (goodIn_of _ (by decide +kernel)) ggX4_needle_X3_save
set_option maxRecDepth 20000 in
theorem ggX4_needle_X2_measureField : GoodIn wsX4_needle wsX2_measureField := goodIn_r _ [46, 37, 35, 38, 36, 47, 48, 49, 28, 50, 39, 30, 51, 5, 52, 53, 54, 55, 56, 57, 58, 59, 60, 65, 66, 67, 68, 69, 70, 71, 72, 73, 74, 75, 76, 77] (by decide +kernel) (by decide +kernel)
set_option maxRecDepth 20000 in
theorem gX4_needle_X2_measureField : GoodIn wsX4_needle (wsV RX4 48 RX2 yX2_measureField wsX2_measureField) := goodIn_app (goodIn_of _ (by decide +kernel)) ggX4_needle_X2_measureField
theorem dX4_needle_0 : decode cX4_needle 0 = .ok (.iload_n 1, 1) := by decide +kernel
theorem dX4_needle_1 : decode cX4_needle 1 = .ok (.invokestatic 33, 3) := by decide +kernel
theorem dX4_needle_4 : decode cX4_needle 4 = .ok (.iload_n 2, 1) := by decide +kernel
theorem dX4_needle_5 : decode cX4_needle 5 = .ok (.invokestatic 37, 3) := by decide +kernel
theorem dX4_needle_8 : decode cX4_needle 8 = .ok (.aload_n 0, 1) := by decide +kernel
theorem dX4_needle_9 : decode cX4_needle 9 = .ok (.getfield 22, 3) := by decide +kernel
theorem dX4_needle_12 : decode cX4_needle 12 = .ok (.aload_n 0, 1) := by decide +kernel
theorem dX4_needle_13 : decode cX4_needle 13 = .ok (.getfield 12, 3) := by decide +kernel
theorem dX4_needle_16 : decode cX4_needle 16 = .ok (.invokevirtual 40, 3) := by decide +kernel
theorem dX4_needle_19 : decode cX4_needle 19 = .ok (.aload_n 0, 1) := by decide +kernel
theorem dX4_needle_20 : decode cX4_needle 20 = .ok (.getfield 12, 3) := by decide +kernel
theorem dX4_needle_23 : decode cX4_needle 23 = .ok (.getfield 44, 3) := by decide +kernel
theorem dX4_needle_26 : decode cX4_needle 26 = .ok (.iload_n 1, 1) := by decide +kernel
theorem dX4_needle_27 : decode cX4_needle 27 = .ok (.iaload, 1) := by decide +kernel
theorem dX4_needle_28 : decode cX4_needle 28 = .ok (.istore_n 3, 1) := by decide +kernel
theorem dX4_needle_29 : decode cX4_needle 29 = .ok (.aload_n 0, 1) := by decide +kernel
theorem dX4_needle_30 : decode cX4_needle 30 = .ok (.getfield 12, 3) := by decide +kernel
theorem dX4_needle_33 : decode cX4_needle 33 = .ok (.getfield 44, 3) := by decide +kernel
theorem dX4_needle_36 : decode cX4_needle 36 = .ok (.iload_n 1, 1) := by decide +kernel
theorem dX4_needle_37 : decode cX4_needle 37 = .ok (.iload_n 2, 1) := by decide +kernel
theorem dX4_needle_38 : decode cX4_needle 38 = .ok (.iastore, 1) := by decide +kernel
theorem dX4_needle_39 : decode cX4_needle 39 = .ok (.aload_n 0, 1) := by decide +kernel
theorem dX4_needle_40 : decode cX4_needle 40 = .ok (.getfield 12, 3) := by decide +kernel
theorem dX4_needle_43 : decode cX4_needle 43 = .ok (.invokevirtual 48, 3) := by decide +kernel
theorem dX4_needle_46 : decode cX4_needle 46 = .ok (.iload_n 3, 1) := by decide +kernel
theorem dX4_needle_47 : decode cX4_needle 47 = .ok (.ireturn, 1) := by decide +kernel
set_option maxRecDepth 20000 in
theorem ggX4_friction_X4_requireCell : GoodIn wsX4_friction wsX4_requireCell := goodIn_ca (goodIn_r _ [6, 7, 8] (by decide +kernel) (by decide +kernel)) (goodIn_sub (fun _ h => List.mem_cons_of_mem _ (List.mem_append_left _ (List.mem_append_right _ h))) (by decide +kernel))
set_option maxRecDepth 20000 in
theorem gX4_friction_X4_requireCell : GoodIn wsX4_friction (va_wsS RX4 33 yX4_requireCell wsX4_requireCell) := goodIn_app (goodIn_of _ (by decide +kernel)) ggX4_friction_X4_requireCell
set_option maxRecDepth 20000 in
theorem ggX4_friction_X4_requireBetween : GoodIn wsX4_friction wsX4_requireBetween := goodIn_ca (goodIn_r _ [11, 12, 13] (by decide +kernel) (by decide +kernel)) (goodIn_sub (fun _ h => List.mem_cons_of_mem _ (List.mem_append_right _ h)) (by decide +kernel))
set_option maxRecDepth 20000 in
theorem gX4_friction_X4_requireBetween : GoodIn wsX4_friction (va_wsS RX4 51 yX4_requireBetween wsX4_requireBetween) := goodIn_app (goodIn_of _ (by decide +kernel)) ggX4_friction_X4_requireBetween
set_option maxRecDepth 20000 in
theorem ggX4_friction_X3_save : GoodIn wsX4_friction wsX3_save := goodIn_r _ [18, 19, 20, 21, 22, 23, 24, 25, 26, 27, 28, 29, 30, 31, 32, 33, 34, 35, 36, 37, 38, 39, 57, 58, 59, 44, 45, 46, 47, 48, 49, 50, 51, 52, 53, 54, 55, 56] (by decide +kernel) (by decide +kernel)
set_option maxRecDepth 20000 in
theorem gX4_friction_X3_save : GoodIn wsX4_friction (wsV RX4 40 RX3 yX3_save wsX3_save) := goodIn_app (goodIn_of _ (by decide +kernel)) ggX4_friction_X3_save
theorem dX4_friction_0 : decode cX4_friction 0 = .ok (.iload_n 1, 1) := by decide +kernel
theorem dX4_friction_1 : decode cX4_friction 1 = .ok (.invokestatic 33, 3) := by decide +kernel
theorem dX4_friction_4 : decode cX4_friction 4 = .ok (.iload_n 2, 1) := by decide +kernel
theorem dX4_friction_5 : decode cX4_friction 5 = .ok (.iconst 0, 1) := by decide +kernel
theorem dX4_friction_6 : decode cX4_friction 6 = .ok (.sipush 999, 3) := by decide +kernel
theorem dX4_friction_9 : decode cX4_friction 9 = .ok (.invokestatic 51, 3) := by decide +kernel
theorem dX4_friction_12 : decode cX4_friction 12 = .ok (.aload_n 0, 1) := by decide +kernel
theorem dX4_friction_13 : decode cX4_friction 13 = .ok (.getfield 22, 3) := by decide +kernel
theorem dX4_friction_16 : decode cX4_friction 16 = .ok (.aload_n 0, 1) := by decide +kernel
theorem dX4_friction_17 : decode cX4_friction 17 = .ok (.getfield 12, 3) := by decide +kernel
theorem dX4_friction_20 : decode cX4_friction 20 = .ok (.invokevirtual 40, 3) := by decide +kernel
theorem dX4_friction_23 : decode cX4_friction 23 = .ok (.aload_n 0, 1) := by decide +kernel
theorem dX4_friction_24 : decode cX4_friction 24 = .ok (.getfield 12, 3) := by decide +kernel
theorem dX4_friction_27 : decode cX4_friction 27 = .ok (.getfield 55, 3) := by decide +kernel
theorem dX4_friction_30 : decode cX4_friction 30 = .ok (.iload_n 1, 1) := by decide +kernel
theorem dX4_friction_31 : decode cX4_friction 31 = .ok (.iaload, 1) := by decide +kernel
theorem dX4_friction_32 : decode cX4_friction 32 = .ok (.istore_n 3, 1) := by decide +kernel
theorem dX4_friction_33 : decode cX4_friction 33 = .ok (.aload_n 0, 1) := by decide +kernel
theorem dX4_friction_34 : decode cX4_friction 34 = .ok (.getfield 12, 3) := by decide +kernel
theorem dX4_friction_37 : decode cX4_friction 37 = .ok (.getfield 55, 3) := by decide +kernel
theorem dX4_friction_40 : decode cX4_friction 40 = .ok (.iload_n 1, 1) := by decide +kernel
theorem dX4_friction_41 : decode cX4_friction 41 = .ok (.iload_n 2, 1) := by decide +kernel
theorem dX4_friction_42 : decode cX4_friction 42 = .ok (.iastore, 1) := by decide +kernel
theorem dX4_friction_43 : decode cX4_friction 43 = .ok (.iload_n 3, 1) := by decide +kernel
theorem dX4_friction_44 : decode cX4_friction 44 = .ok (.ireturn, 1) := by decide +kernel
set_option maxRecDepth 20000 in
theorem ggX4_hold_X4_requireCell : GoodIn wsX4_hold wsX4_requireCell := goodIn_ca (goodIn_r _ [6, 7, 8] (by decide +kernel) (by decide +kernel)) (goodIn_sub (fun _ h => List.mem_cons_of_mem _ (List.mem_append_right _ h)) (by decide +kernel))
set_option maxRecDepth 20000 in
theorem gX4_hold_X4_requireCell : GoodIn wsX4_hold (va_wsS RX4 33 yX4_requireCell wsX4_requireCell) := goodIn_app (goodIn_of _ (by decide +kernel)) ggX4_hold_X4_requireCell
set_option maxRecDepth 20000 in
theorem ggX4_hold_X3_save : GoodIn wsX4_hold wsX3_save := goodIn_r _ [13, 14, 15, 16, 17, 18, 19, 20, 21, 22, 23, 24, 25, 26, 27, 28, 29, 30, 31, 32, 33, 34, 52, 53, 54, 39, 40, 41, 42, 43, 44, 45, 46, 47, 48, 49, 50, 51] (by decide +kernel) (by decide +kernel)
set_option maxRecDepth 20000 in
theorem gX4_hold_X3_save : GoodIn wsX4_hold (wsV RX4 40 RX3 yX3_save wsX3_save) := goodIn_app (goodIn_of _ (by decide +kernel)) ggX4_hold_X3_save
theorem dX4_hold_0 : decode cX4_hold 0 = .ok (.iload_n 1, 1) := by decide +kernel
theorem dX4_hold_1 : decode cX4_hold 1 = .ok (.invokestatic 33, 3) := by decide +kernel
theorem dX4_hold_4 : decode cX4_hold 4 = .ok (.aload_n 0, 1) := by decide +kernel
theorem dX4_hold_5 : decode cX4_hold 5 = .ok (.getfield 22, 3) := by decide +kernel
theorem dX4_hold_8 : decode cX4_hold 8 = .ok (.aload_n 0, 1) := by decide +kernel
theorem dX4_hold_9 : decode cX4_hold 9 = .ok (.getfield 12, 3) := by decide +kernel
theorem dX4_hold_12 : decode cX4_hold 12 = .ok (.invokevirtual 40, 3) := by decide +kernel
theorem dX4_hold_15 : decode cX4_hold 15 = .ok (.aload_n 0, 1) := by decide +kernel
theorem dX4_hold_16 : decode cX4_hold 16 = .ok (.getfield 12, 3) := by decide +kernel
theorem dX4_hold_19 : decode cX4_hold 19 = .ok (.getfield 58, 3) := by decide +kernel
theorem dX4_hold_22 : decode cX4_hold 22 = .ok (.iload_n 1, 1) := by decide +kernel
theorem dX4_hold_23 : decode cX4_hold 23 = .ok (.baload, 1) := by decide +kernel
theorem dX4_hold_24 : decode cX4_hold 24 = .ok (.ifCond .eq 7, 3) := by decide +kernel
theorem dX4_hold_27 : decode cX4_hold 27 = .ok (.iconst 1, 1) := by decide +kernel
theorem dX4_hold_28 : decode cX4_hold 28 = .ok (.goto 4, 3) := by decide +kernel
theorem dX4_hold_31 : decode cX4_hold 31 = .ok (.iconst 0, 1) := by decide +kernel
theorem dX4_hold_32 : decode cX4_hold 32 = .ok (.istore_n 3, 1) := by decide +kernel
theorem dX4_hold_33 : decode cX4_hold 33 = .ok (.aload_n 0, 1) := by decide +kernel
theorem dX4_hold_34 : decode cX4_hold 34 = .ok (.getfield 12, 3) := by decide +kernel
theorem dX4_hold_37 : decode cX4_hold 37 = .ok (.getfield 58, 3) := by decide +kernel
theorem dX4_hold_40 : decode cX4_hold 40 = .ok (.iload_n 1, 1) := by decide +kernel
theorem dX4_hold_41 : decode cX4_hold 41 = .ok (.iload_n 2, 1) := by decide +kernel
theorem dX4_hold_42 : decode cX4_hold 42 = .ok (.bastore, 1) := by decide +kernel
theorem dX4_hold_43 : decode cX4_hold 43 = .ok (.iload_n 3, 1) := by decide +kernel
theorem dX4_hold_44 : decode cX4_hold 44 = .ok (.ireturn, 1) := by decide +kernel
set_option maxRecDepth 20000 in
theorem ggX4_swap_X4_requireCell : GoodIn wsX4_swap wsX4_requireCell := goodIn_ca (goodIn_r _ [6, 7, 8] (by decide +kernel) (by decide +kernel)) (goodIn_sub (fun _ h => List.mem_cons_of_mem _ (List.mem_append_right _ h)) (by decide +kernel))
set_option maxRecDepth 20000 in
theorem gX4_swap_X4_requireCell : GoodIn wsX4_swap (va_wsS RX4 33 yX4_requireCell wsX4_requireCell) := goodIn_app (goodIn_of _ (by decide +kernel)) ggX4_swap_X4_requireCell
set_option maxRecDepth 20000 in
theorem ggX4_swap_X3_save : GoodIn wsX4_swap wsX3_save := goodIn_r _ [13, 14, 15, 16, 17, 18, 19, 20, 21, 22, 23, 24, 25, 26, 27, 28, 29, 30, 31, 32, 33, 34, 73, 74, 75, 60, 61, 62, 63, 64, 65, 66, 67, 68, 69, 70, 71, 72] (by decide +kernel) (by decide +kernel)
set_option maxRecDepth 20000 in
theorem gX4_swap_X3_save : GoodIn wsX4_swap (wsV RX4 40 RX3 yX3_save wsX3_save) := goodIn_app (goodIn_of _ (by decide +kernel)) ggX4_swap_X3_save
set_option maxRecDepth 20000 in
theorem ggX4_swap_X4_exchange : GoodIn wsX4_swap wsX4_exchange := goodIn_r _ [37] (by decide +kernel) (by decide +kernel)
set_option maxRecDepth 20000 in
theorem gX4_swap_X4_exchange : GoodIn wsX4_swap (va_wsS RX4 62 yX4_exchange wsX4_exchange) := goodIn_app (goodIn_of _ (by decide +kernel)) ggX4_swap_X4_exchange
set_option maxRecDepth 20000 in
theorem ggX4_swap_X2_measureField : GoodIn wsX4_swap wsX2_measureField := goodIn_r _ [41, 29, 27, 30, 28, 42, 43, 44, 20, 45, 31, 22, 46, 5, 47, 48, 49, 50, 51, 52, 53, 54, 55, 60, 61, 62, 63, 64, 65, 66, 67, 68, 69, 70, 71, 72] (by decide +kernel) (by decide +kernel)
set_option maxRecDepth 20000 in
theorem gX4_swap_X2_measureField : GoodIn wsX4_swap (wsV RX4 48 RX2 yX2_measureField wsX2_measureField) := goodIn_app (goodIn_of _ (by decide +kernel)) ggX4_swap_X2_measureField
theorem dX4_swap_0 : decode cX4_swap 0 = .ok (.iload_n 1, 1) := by decide +kernel
theorem dX4_swap_1 : decode cX4_swap 1 = .ok (.invokestatic 33, 3) := by decide +kernel
theorem dX4_swap_4 : decode cX4_swap 4 = .ok (.iload_n 2, 1) := by decide +kernel
theorem dX4_swap_5 : decode cX4_swap 5 = .ok (.invokestatic 33, 3) := by decide +kernel
theorem dX4_swap_8 : decode cX4_swap 8 = .ok (.aload_n 0, 1) := by decide +kernel
theorem dX4_swap_9 : decode cX4_swap 9 = .ok (.getfield 22, 3) := by decide +kernel
theorem dX4_swap_12 : decode cX4_swap 12 = .ok (.aload_n 0, 1) := by decide +kernel
theorem dX4_swap_13 : decode cX4_swap 13 = .ok (.getfield 12, 3) := by decide +kernel
theorem dX4_swap_16 : decode cX4_swap 16 = .ok (.invokevirtual 40, 3) := by decide +kernel
theorem dX4_swap_19 : decode cX4_swap 19 = .ok (.aload_n 0, 1) := by decide +kernel
theorem dX4_swap_20 : decode cX4_swap 20 = .ok (.getfield 12, 3) := by decide +kernel
theorem dX4_swap_23 : decode cX4_swap 23 = .ok (.getfield 44, 3) := by decide +kernel
theorem dX4_swap_26 : decode cX4_swap 26 = .ok (.iload_n 1, 1) := by decide +kernel
theorem dX4_swap_27 : decode cX4_swap 27 = .ok (.iload_n 2, 1) := by decide +kernel
theorem dX4_swap_28 : decode cX4_swap 28 = .ok (.invokestatic 62, 3) := by decide +kernel
theorem dX4_swap_31 : decode cX4_swap 31 = .ok (.aload_n 0, 1) := by decide +kernel
theorem dX4_swap_32 : decode cX4_swap 32 = .ok (.getfield 12, 3) := by decide +kernel
theorem dX4_swap_35 : decode cX4_swap 35 = .ok (.getfield 55, 3) := by decide +kernel
theorem dX4_swap_38 : decode cX4_swap 38 = .ok (.iload_n 1, 1) := by decide +kernel
theorem dX4_swap_39 : decode cX4_swap 39 = .ok (.iload_n 2, 1) := by decide +kernel
theorem dX4_swap_40 : decode cX4_swap 40 = .ok (.invokestatic 62, 3) := by decide +kernel
theorem dX4_swap_43 : decode cX4_swap 43 = .ok (.aload_n 0, 1) := by decide +kernel
theorem dX4_swap_44 : decode cX4_swap 44 = .ok (.getfield 12, 3) := by decide +kernel
theorem dX4_swap_47 : decode cX4_swap 47 = .ok (.invokevirtual 48, 3) := by decide +kernel
theorem dX4_swap_50 : decode cX4_swap 50 = .ok (.aload_n 0, 1) := by decide +kernel
theorem dX4_swap_51 : decode cX4_swap 51 = .ok (.getfield 12, 3) := by decide +kernel
theorem dX4_swap_54 : decode cX4_swap 54 = .ok (.getfield 44, 3) := by decide +kernel
theorem dX4_swap_57 : decode cX4_swap 57 = .ok (.iload_n 1, 1) := by decide +kernel
theorem dX4_swap_58 : decode cX4_swap 58 = .ok (.iaload, 1) := by decide +kernel
theorem dX4_swap_59 : decode cX4_swap 59 = .ok (.ireturn, 1) := by decide +kernel
set_option maxRecDepth 20000 in
theorem ggX4_bar_X4_requireCell : GoodIn wsX4_bar wsX4_requireCell := goodIn_ca (goodIn_r _ [8, 9, 10] (by decide +kernel) (by decide +kernel)) (goodIn_sub (fun _ h => List.mem_cons_of_mem _ (List.mem_append_left _ (List.mem_append_right _ h))) (by decide +kernel))
set_option maxRecDepth 20000 in
theorem gX4_bar_X4_requireCell : GoodIn wsX4_bar (va_wsS RX4 33 yX4_requireCell wsX4_requireCell) := goodIn_app (goodIn_of _ (by decide +kernel)) ggX4_bar_X4_requireCell
set_option maxRecDepth 20000 in
theorem ggX4_bar_X4_requireDirection : GoodIn wsX4_bar wsX4_requireDirection := goodIn_ca (goodIn_r _ [13, 14, 15, 7, 16, 17, 18] (by decide +kernel) (by decide +kernel)) (goodIn_sub (fun _ h => List.mem_cons_of_mem _ (List.mem_append_right _ h)) (by decide +kernel))
set_option maxRecDepth 20000 in
theorem gX4_bar_X4_requireDirection : GoodIn wsX4_bar (va_wsS RX4 37 yX4_requireDirection wsX4_requireDirection) := goodIn_app (goodIn_of _ (by decide +kernel)) ggX4_bar_X4_requireDirection
set_option maxRecDepth 20000 in
theorem ggX4_bar_X4_requireBetween : GoodIn wsX4_bar wsX4_requireBetween := goodIn_ca (goodIn_r _ [16, 17, 18] (by decide +kernel) (by decide +kernel)) (goodIn_sub (fun _ h => List.mem_cons_of_mem _ (List.mem_append_right _ h)) (by decide +kernel))
set_option maxRecDepth 20000 in
theorem gX4_bar_X4_requireBetween : GoodIn wsX4_bar (va_wsS RX4 51 yX4_requireBetween wsX4_requireBetween) := goodIn_app (goodIn_of _ (by decide +kernel)) ggX4_bar_X4_requireBetween
set_option maxRecDepth 20000 in
theorem ggX4_bar_X2_hasBar : GoodIn wsX4_bar wsX2_hasBar := goodIn_r _ [23, 24, 92, 93, 94, 95, 96, 97, 98, 99, 100, 101, 102, 103, 104] (by decide +kernel) (by decide +kernel)
set_option maxRecDepth 20000 in
theorem gX4_bar_X2_hasBar : GoodIn wsX4_bar (wsV RX4 66 RX2 yX2_hasBar wsX2_hasBar) := goodIn_app (goodIn_of _ (by decide +kernel)) ggX4_bar_X2_hasBar
set_option maxRecDepth 20000 in
theorem ggX4_bar_X2_barCount : GoodIn wsX4_bar wsX2_barCount := goodIn_r _ [28, 29, 20, 21, 22, 23, 24, 92, 93, 94, 95, 96, 97, 98, 99, 100, 101, 102, 103, 104] (by decide +kernel) (by decide +kernel)
set_option maxRecDepth 20000 in
theorem gX4_bar_X2_barCount : GoodIn wsX4_bar (wsV RX4 70 RX2 yX2_barCount wsX2_barCount) := goodIn_app (goodIn_of _ (by decide +kernel)) ggX4_bar_X2_barCount
set_option maxRecDepth 20000 in
theorem ggX4_bar_X3_save : GoodIn wsX4_bar wsX3_save := goodIn_r _ [34, 35, 36, 37, 38, 39, 40, 22, 41, 42, 43, 44, 45, 24, 46, 47, 48, 49, 50, 51, 52, 53, 105, 106, 107, 92, 93, 94, 95, 96, 97, 98, 99, 100, 101, 102, 103, 104] (by decide +kernel) (by decide +kernel)
set_option maxRecDepth 20000 in
theorem gX4_bar_X3_save : GoodIn wsX4_bar (wsV RX4 40 RX3 yX3_save wsX3_save) := goodIn_app (goodIn_of _ (by decide +kernel)) ggX4_bar_X3_save
set_option maxRecDepth 20000 in
theorem ggX4_bar_X2_layBar : GoodIn wsX4_bar wsX2_layBar := goodIn_r _ [57, 45, 24, 92, 93, 94, 95, 96, 97, 98, 99, 100, 101, 102, 103, 104] (by decide +kernel) (by decide +kernel)
set_option maxRecDepth 20000 in
theorem gX4_bar_X2_layBar : GoodIn wsX4_bar (wsV RX4 81 RX2 yX2_layBar wsX2_layBar) := goodIn_app (goodIn_of _ (by decide +kernel)) ggX4_bar_X2_layBar
set_option maxRecDepth 20000 in
theorem ggX4_bar_X2_measureAll : GoodIn wsX4_bar wsX2_measureAll := goodIn_r _ [61, 50, 51, 52, 46, 47, 62, 7, 63, 64, 65, 66, 67, 29, 20, 21, 22, 23, 24, 68, 69, 70, 71, 45, 72, 73, 74, 75, 76, 77, 78, 79, 48, 49, 80, 81, 82, 83, 42, 84, 85, 86, 87, 92, 93, 94, 95, 96, 97, 98, 99, 100, 101, 102, 103, 104] (by decide +kernel) (by decide +kernel)
set_option maxRecDepth 20000 in
theorem gX4_bar_X2_measureAll : GoodIn wsX4_bar (wsV RX4 84 RX2 yX2_measureAll wsX2_measureAll) := goodIn_app (goodIn_of _ (by decide +kernel)) ggX4_bar_X2_measureAll
theorem dX4_bar_0 : decode cX4_bar 0 = .ok (.iload_n 1, 1) := by decide +kernel
theorem dX4_bar_1 : decode cX4_bar 1 = .ok (.invokestatic 33, 3) := by decide +kernel
theorem dX4_bar_4 : decode cX4_bar 4 = .ok (.iload_n 2, 1) := by decide +kernel
theorem dX4_bar_5 : decode cX4_bar 5 = .ok (.invokestatic 37, 3) := by decide +kernel
theorem dX4_bar_8 : decode cX4_bar 8 = .ok (.iload_n 3, 1) := by decide +kernel
theorem dX4_bar_9 : decode cX4_bar 9 = .ok (.iconst 1, 1) := by decide +kernel
theorem dX4_bar_10 : decode cX4_bar 10 = .ok (.bipush 50, 2) := by decide +kernel
theorem dX4_bar_12 : decode cX4_bar 12 = .ok (.invokestatic 51, 3) := by decide +kernel
theorem dX4_bar_15 : decode cX4_bar 15 = .ok (.aload_n 0, 1) := by decide +kernel
theorem dX4_bar_16 : decode cX4_bar 16 = .ok (.getfield 12, 3) := by decide +kernel
theorem dX4_bar_19 : decode cX4_bar 19 = .ok (.iload_n 1, 1) := by decide +kernel
theorem dX4_bar_20 : decode cX4_bar 20 = .ok (.invokevirtual 66, 3) := by decide +kernel
theorem dX4_bar_23 : decode cX4_bar 23 = .ok (.ifCond .ne 25, 3) := by decide +kernel
theorem dX4_bar_26 : decode cX4_bar 26 = .ok (.aload_n 0, 1) := by decide +kernel
theorem dX4_bar_27 : decode cX4_bar 27 = .ok (.getfield 12, 3) := by decide +kernel
theorem dX4_bar_30 : decode cX4_bar 30 = .ok (.invokevirtual 70, 3) := by decide +kernel
theorem dX4_bar_33 : decode cX4_bar 33 = .ok (.bipush 6, 2) := by decide +kernel
theorem dX4_bar_35 : decode cX4_bar 35 = .ok (.if_icmp .lt 13, 3) := by decide +kernel
theorem dX4_bar_38 : decode cX4_bar 38 = .ok (.new 74, 3) := by decide +kernel
theorem dX4_bar_41 : decode cX4_bar 41 = .ok (.dup, 1) := by decide +kernel
theorem dX4_bar_42 : decode cX4_bar 42 = .ok (.ldc 76, 2) := by decide +kernel
theorem dX4_bar_44 : decode cX4_bar 44 = .ok (.invokespecial 78, 3) := by decide +kernel
theorem dX4_bar_47 : decode cX4_bar 47 = .ok (.athrow, 1) := by decide +kernel
theorem dX4_bar_48 : decode cX4_bar 48 = .ok (.aload_n 0, 1) := by decide +kernel
theorem dX4_bar_49 : decode cX4_bar 49 = .ok (.getfield 22, 3) := by decide +kernel
theorem dX4_bar_52 : decode cX4_bar 52 = .ok (.aload_n 0, 1) := by decide +kernel
theorem dX4_bar_53 : decode cX4_bar 53 = .ok (.getfield 12, 3) := by decide +kernel
theorem dX4_bar_56 : decode cX4_bar 56 = .ok (.invokevirtual 40, 3) := by decide +kernel
theorem dX4_bar_59 : decode cX4_bar 59 = .ok (.aload_n 0, 1) := by decide +kernel
theorem dX4_bar_60 : decode cX4_bar 60 = .ok (.getfield 12, 3) := by decide +kernel
theorem dX4_bar_63 : decode cX4_bar 63 = .ok (.iload_n 1, 1) := by decide +kernel
theorem dX4_bar_64 : decode cX4_bar 64 = .ok (.iload_n 2, 1) := by decide +kernel
theorem dX4_bar_65 : decode cX4_bar 65 = .ok (.iload_n 3, 1) := by decide +kernel
theorem dX4_bar_66 : decode cX4_bar 66 = .ok (.invokevirtual 81, 3) := by decide +kernel
theorem dX4_bar_69 : decode cX4_bar 69 = .ok (.aload_n 0, 1) := by decide +kernel
theorem dX4_bar_70 : decode cX4_bar 70 = .ok (.getfield 12, 3) := by decide +kernel
theorem dX4_bar_73 : decode cX4_bar 73 = .ok (.invokevirtual 84, 3) := by decide +kernel
theorem dX4_bar_76 : decode cX4_bar 76 = .ok (.aload_n 0, 1) := by decide +kernel
theorem dX4_bar_77 : decode cX4_bar 77 = .ok (.getfield 12, 3) := by decide +kernel
theorem dX4_bar_80 : decode cX4_bar 80 = .ok (.invokevirtual 70, 3) := by decide +kernel
theorem dX4_bar_83 : decode cX4_bar 83 = .ok (.ireturn, 1) := by decide +kernel
set_option maxRecDepth 20000 in
theorem ggX4_unbar_X4_requireCell : GoodIn wsX4_unbar wsX4_requireCell := goodIn_ca (goodIn_r _ [8, 9, 10] (by decide +kernel) (by decide +kernel)) (goodIn_sub (fun _ h => List.mem_cons_of_mem _ (List.mem_append_right _ h)) (by decide +kernel))
set_option maxRecDepth 20000 in
theorem gX4_unbar_X4_requireCell : GoodIn wsX4_unbar (va_wsS RX4 33 yX4_requireCell wsX4_requireCell) := goodIn_app (goodIn_of _ (by decide +kernel)) ggX4_unbar_X4_requireCell
set_option maxRecDepth 20000 in
theorem ggX4_unbar_X2_hasBar : GoodIn wsX4_unbar wsX2_hasBar := goodIn_r _ [15, 16, 88, 89, 90, 91, 92, 93, 94, 95, 96, 97, 98, 99, 100] (by decide +kernel) (by decide +kernel)
set_option maxRecDepth 20000 in
theorem gX4_unbar_X2_hasBar : GoodIn wsX4_unbar (wsV RX4 66 RX2 yX2_hasBar wsX2_hasBar) := goodIn_app (goodIn_of _ (by decide +kernel)) ggX4_unbar_X2_hasBar
set_option maxRecDepth 20000 in
theorem ggX4_unbar_X3_save : GoodIn wsX4_unbar wsX3_save := goodIn_r _ [21, 22, 23, 24, 25, 26, 27, 14, 28, 29, 30, 31, 32, 16, 33, 34, 35, 36, 37, 38, 39, 40, 101, 102, 103, 88, 89, 90, 91, 92, 93, 94, 95, 96, 97, 98, 99, 100] (by decide +kernel) (by decide +kernel)
set_option maxRecDepth 20000 in
theorem gX4_unbar_X3_save : GoodIn wsX4_unbar (wsV RX4 40 RX3 yX3_save wsX3_save) := goodIn_app (goodIn_of _ (by decide +kernel)) ggX4_unbar_X3_save
set_option maxRecDepth 20000 in
theorem ggX4_unbar_X2_takeBar : GoodIn wsX4_unbar wsX2_takeBar := goodIn_r _ [44, 45, 46, 47, 14, 48, 32, 16, 88, 89, 90, 91, 92, 93, 94, 95, 96, 97, 98, 99, 100] (by decide +kernel) (by decide +kernel)
set_option maxRecDepth 20000 in
theorem gX4_unbar_X2_takeBar : GoodIn wsX4_unbar (wsV RX4 89 RX2 yX2_takeBar wsX2_takeBar) := goodIn_app (goodIn_of _ (by decide +kernel)) ggX4_unbar_X2_takeBar
set_option maxRecDepth 20000 in
theorem ggX4_unbar_X2_measureAll : GoodIn wsX4_unbar wsX2_measureAll := goodIn_r _ [52, 37, 38, 39, 33, 34, 53, 7, 54, 55, 56, 57, 58, 59, 12, 13, 14, 15, 16, 60, 61, 62, 63, 32, 64, 65, 66, 67, 68, 69, 70, 71, 35, 36, 72, 73, 74, 75, 29, 76, 77, 78, 79, 88, 89, 90, 91, 92, 93, 94, 95, 96, 97, 98, 99, 100] (by decide +kernel) (by decide +kernel)
set_option maxRecDepth 20000 in
theorem gX4_unbar_X2_measureAll : GoodIn wsX4_unbar (wsV RX4 84 RX2 yX2_measureAll wsX2_measureAll) := goodIn_app (goodIn_of _ (by decide +kernel)) ggX4_unbar_X2_measureAll
set_option maxRecDepth 20000 in
theorem ggX4_unbar_X2_barCount : GoodIn wsX4_unbar wsX2_barCount := goodIn_r _ [83, 59, 12, 13, 14, 15, 16, 88, 89, 90, 91, 92, 93, 94, 95, 96, 97, 98, 99, 100] (by decide +kernel) (by decide +kernel)
set_option maxRecDepth 20000 in
theorem gX4_unbar_X2_barCount : GoodIn wsX4_unbar (wsV RX4 70 RX2 yX2_barCount wsX2_barCount) := goodIn_app (goodIn_of _ (by decide +kernel)) ggX4_unbar_X2_barCount
theorem dX4_unbar_0 : decode cX4_unbar 0 = .ok (.iload_n 1, 1) := by decide +kernel
theorem dX4_unbar_1 : decode cX4_unbar 1 = .ok (.invokestatic 33, 3) := by decide +kernel
theorem dX4_unbar_4 : decode cX4_unbar 4 = .ok (.aload_n 0, 1) := by decide +kernel
theorem dX4_unbar_5 : decode cX4_unbar 5 = .ok (.getfield 12, 3) := by decide +kernel
theorem dX4_unbar_8 : decode cX4_unbar 8 = .ok (.iload_n 1, 1) := by decide +kernel
theorem dX4_unbar_9 : decode cX4_unbar 9 = .ok (.invokevirtual 66, 3) := by decide +kernel
theorem dX4_unbar_12 : decode cX4_unbar 12 = .ok (.ifCond .ne 13, 3) := by decide +kernel
theorem dX4_unbar_15 : decode cX4_unbar 15 = .ok (.new 74, 3) := by decide +kernel
theorem dX4_unbar_18 : decode cX4_unbar 18 = .ok (.dup, 1) := by decide +kernel
theorem dX4_unbar_19 : decode cX4_unbar 19 = .ok (.ldc 87, 2) := by decide +kernel
theorem dX4_unbar_21 : decode cX4_unbar 21 = .ok (.invokespecial 78, 3) := by decide +kernel
theorem dX4_unbar_24 : decode cX4_unbar 24 = .ok (.athrow, 1) := by decide +kernel
theorem dX4_unbar_25 : decode cX4_unbar 25 = .ok (.aload_n 0, 1) := by decide +kernel
theorem dX4_unbar_26 : decode cX4_unbar 26 = .ok (.getfield 22, 3) := by decide +kernel
theorem dX4_unbar_29 : decode cX4_unbar 29 = .ok (.aload_n 0, 1) := by decide +kernel
theorem dX4_unbar_30 : decode cX4_unbar 30 = .ok (.getfield 12, 3) := by decide +kernel
theorem dX4_unbar_33 : decode cX4_unbar 33 = .ok (.invokevirtual 40, 3) := by decide +kernel
theorem dX4_unbar_36 : decode cX4_unbar 36 = .ok (.aload_n 0, 1) := by decide +kernel
theorem dX4_unbar_37 : decode cX4_unbar 37 = .ok (.getfield 12, 3) := by decide +kernel
theorem dX4_unbar_40 : decode cX4_unbar 40 = .ok (.iload_n 1, 1) := by decide +kernel
theorem dX4_unbar_41 : decode cX4_unbar 41 = .ok (.invokevirtual 89, 3) := by decide +kernel
theorem dX4_unbar_44 : decode cX4_unbar 44 = .ok (.aload_n 0, 1) := by decide +kernel
theorem dX4_unbar_45 : decode cX4_unbar 45 = .ok (.getfield 12, 3) := by decide +kernel
theorem dX4_unbar_48 : decode cX4_unbar 48 = .ok (.invokevirtual 84, 3) := by decide +kernel
theorem dX4_unbar_51 : decode cX4_unbar 51 = .ok (.aload_n 0, 1) := by decide +kernel
theorem dX4_unbar_52 : decode cX4_unbar 52 = .ok (.getfield 12, 3) := by decide +kernel
theorem dX4_unbar_55 : decode cX4_unbar 55 = .ok (.invokevirtual 70, 3) := by decide +kernel
theorem dX4_unbar_58 : decode cX4_unbar 58 = .ok (.ireturn, 1) := by decide +kernel
set_option maxRecDepth 20000 in
theorem ggX4_coil_X4_requireBetween : GoodIn wsX4_coil wsX4_requireBetween := goodIn_ca (goodIn_r _ [6, 7, 8] (by decide +kernel) (by decide +kernel)) (goodIn_sub (fun _ h => List.mem_cons_of_mem _ (List.mem_append_right _ h)) (by decide +kernel))
set_option maxRecDepth 20000 in
theorem gX4_coil_X4_requireBetween : GoodIn wsX4_coil (va_wsS RX4 51 yX4_requireBetween wsX4_requireBetween) := goodIn_app (goodIn_of _ (by decide +kernel)) ggX4_coil_X4_requireBetween
set_option maxRecDepth 20000 in
theorem ggX4_coil_X4_requireDirection : GoodIn wsX4_coil wsX4_requireDirection := goodIn_ca (goodIn_r _ [11, 3, 4, 5, 6, 7, 8] (by decide +kernel) (by decide +kernel)) (goodIn_sub (fun _ h => List.mem_cons_of_mem _ (List.mem_append_right _ h)) (by decide +kernel))
set_option maxRecDepth 20000 in
theorem gX4_coil_X4_requireDirection : GoodIn wsX4_coil (va_wsS RX4 37 yX4_requireDirection wsX4_requireDirection) := goodIn_app (goodIn_of _ (by decide +kernel)) ggX4_coil_X4_requireDirection
set_option maxRecDepth 20000 in
theorem ggX4_coil_X3_save : GoodIn wsX4_coil wsX3_save := goodIn_r _ [16, 17, 18, 19, 20, 21, 22, 23, 24, 25, 26, 27, 28, 29, 30, 31, 32, 33, 34, 35, 36, 37, 89, 90, 91, 76, 77, 78, 79, 80, 81, 82, 83, 84, 85, 86, 87, 88] (by decide +kernel) (by decide +kernel)
set_option maxRecDepth 20000 in
theorem gX4_coil_X3_save : GoodIn wsX4_coil (wsV RX4 40 RX3 yX3_save wsX3_save) := goodIn_app (goodIn_of _ (by decide +kernel)) ggX4_coil_X3_save
set_option maxRecDepth 20000 in
theorem ggX4_coil_X2_measureAll : GoodIn wsX4_coil wsX2_measureAll := goodIn_r _ [41, 34, 35, 36, 30, 31, 42, 5, 43, 44, 45, 46, 47, 48, 49, 50, 23, 51, 29, 52, 53, 54, 55, 28, 56, 57, 58, 59, 60, 61, 62, 63, 32, 33, 64, 65, 66, 67, 25, 68, 69, 70, 71, 76, 77, 78, 79, 80, 81, 82, 83, 84, 85, 86, 87, 88] (by decide +kernel) (by decide +kernel)
set_option maxRecDepth 20000 in
theorem gX4_coil_X2_measureAll : GoodIn wsX4_coil (wsV RX4 84 RX2 yX2_measureAll wsX2_measureAll) := goodIn_app (goodIn_of _ (by decide +kernel)) ggX4_coil_X2_measureAll
theorem dX4_coil_0 : decode cX4_coil 0 = .ok (.iload_n 1, 1) := by decide +kernel
theorem dX4_coil_1 : decode cX4_coil 1 = .ok (.iconst 0, 1) := by decide +kernel
theorem dX4_coil_2 : decode cX4_coil 2 = .ok (.bipush 50, 2) := by decide +kernel
theorem dX4_coil_4 : decode cX4_coil 4 = .ok (.invokestatic 51, 3) := by decide +kernel
theorem dX4_coil_7 : decode cX4_coil 7 = .ok (.iload_n 2, 1) := by decide +kernel
theorem dX4_coil_8 : decode cX4_coil 8 = .ok (.invokestatic 37, 3) := by decide +kernel
theorem dX4_coil_11 : decode cX4_coil 11 = .ok (.aload_n 0, 1) := by decide +kernel
theorem dX4_coil_12 : decode cX4_coil 12 = .ok (.getfield 22, 3) := by decide +kernel
theorem dX4_coil_15 : decode cX4_coil 15 = .ok (.aload_n 0, 1) := by decide +kernel
theorem dX4_coil_16 : decode cX4_coil 16 = .ok (.getfield 12, 3) := by decide +kernel
theorem dX4_coil_19 : decode cX4_coil 19 = .ok (.invokevirtual 40, 3) := by decide +kernel
theorem dX4_coil_22 : decode cX4_coil 22 = .ok (.aload_n 0, 1) := by decide +kernel
theorem dX4_coil_23 : decode cX4_coil 23 = .ok (.getfield 12, 3) := by decide +kernel
theorem dX4_coil_26 : decode cX4_coil 26 = .ok (.getfield 92, 3) := by decide +kernel
theorem dX4_coil_29 : decode cX4_coil 29 = .ok (.istore_n 3, 1) := by decide +kernel
theorem dX4_coil_30 : decode cX4_coil 30 = .ok (.aload_n 0, 1) := by decide +kernel
theorem dX4_coil_31 : decode cX4_coil 31 = .ok (.getfield 12, 3) := by decide +kernel
theorem dX4_coil_34 : decode cX4_coil 34 = .ok (.iload_n 1, 1) := by decide +kernel
theorem dX4_coil_35 : decode cX4_coil 35 = .ok (.putfield 92, 3) := by decide +kernel
theorem dX4_coil_38 : decode cX4_coil 38 = .ok (.aload_n 0, 1) := by decide +kernel
theorem dX4_coil_39 : decode cX4_coil 39 = .ok (.getfield 12, 3) := by decide +kernel
theorem dX4_coil_42 : decode cX4_coil 42 = .ok (.iload_n 2, 1) := by decide +kernel
theorem dX4_coil_43 : decode cX4_coil 43 = .ok (.putfield 96, 3) := by decide +kernel
theorem dX4_coil_46 : decode cX4_coil 46 = .ok (.aload_n 0, 1) := by decide +kernel
theorem dX4_coil_47 : decode cX4_coil 47 = .ok (.getfield 12, 3) := by decide +kernel
theorem dX4_coil_50 : decode cX4_coil 50 = .ok (.invokevirtual 84, 3) := by decide +kernel
theorem dX4_coil_53 : decode cX4_coil 53 = .ok (.iload_n 3, 1) := by decide +kernel
theorem dX4_coil_54 : decode cX4_coil 54 = .ok (.ireturn, 1) := by decide +kernel
set_option maxRecDepth 20000 in
theorem ggX4_set_X4_requireSetting : GoodIn wsX4_set wsX4_requireSetting := goodIn_ca (goodIn_r _ [7, 8, 9] (by decide +kernel) (by decide +kernel)) (goodIn_sub (fun _ h => List.mem_cons_of_mem _ (List.mem_append_left _ (List.mem_append_right _ h))) (by decide +kernel))
set_option maxRecDepth 20000 in
theorem gX4_set_X4_requireSetting : GoodIn wsX4_set (va_wsS RX4 99 yX4_requireSetting wsX4_requireSetting) := goodIn_app (goodIn_of _ (by decide +kernel)) ggX4_set_X4_requireSetting
set_option maxRecDepth 20000 in
theorem ggX4_set_X4_requireBetween : GoodIn wsX4_set wsX4_requireBetween := goodIn_ca (goodIn_r _ [12, 13, 14] (by decide +kernel) (by decide +kernel)) (goodIn_sub (fun _ h => List.mem_cons_of_mem _ (List.mem_append_right _ h)) (by decide +kernel))
set_option maxRecDepth 20000 in
theorem gX4_set_X4_requireBetween : GoodIn wsX4_set (va_wsS RX4 51 yX4_requireBetween wsX4_requireBetween) := goodIn_app (goodIn_of _ (by decide +kernel)) ggX4_set_X4_requireBetween
set_option maxRecDepth 20000 in
theorem ggX4_set_X3_save : GoodIn wsX4_set wsX3_save := goodIn_r _ [19, 20, 21, 22, 23, 24, 25, 26, 27, 28, 29, 30, 31, 32, 33, 34, 35, 36, 37, 38, 39, 40, 92, 93, 94, 79, 80, 81, 82, 83, 84, 85, 86, 87, 88, 89, 90, 91] (by decide +kernel) (by decide +kernel)
set_option maxRecDepth 20000 in
theorem gX4_set_X3_save : GoodIn wsX4_set (wsV RX4 40 RX3 yX3_save wsX3_save) := goodIn_app (goodIn_of _ (by decide +kernel)) ggX4_set_X3_save
set_option maxRecDepth 20000 in
theorem ggX4_set_X2_measureAll : GoodIn wsX4_set wsX2_measureAll := goodIn_r _ [44, 37, 38, 39, 33, 34, 45, 6, 46, 47, 48, 49, 50, 51, 52, 53, 26, 54, 32, 55, 56, 57, 58, 31, 59, 60, 61, 62, 63, 64, 65, 66, 35, 36, 67, 68, 69, 70, 28, 71, 72, 73, 74, 79, 80, 81, 82, 83, 84, 85, 86, 87, 88, 89, 90, 91] (by decide +kernel) (by decide +kernel)
set_option maxRecDepth 20000 in
theorem gX4_set_X2_measureAll : GoodIn wsX4_set (wsV RX4 84 RX2 yX2_measureAll wsX2_measureAll) := goodIn_app (goodIn_of _ (by decide +kernel)) ggX4_set_X2_measureAll
theorem dX4_set_0 : decode cX4_set 0 = .ok (.iload_n 1, 1) := by decide +kernel
theorem dX4_set_1 : decode cX4_set 1 = .ok (.invokestatic 99, 3) := by decide +kernel
theorem dX4_set_4 : decode cX4_set 4 = .ok (.iload_n 2, 1) := by decide +kernel
theorem dX4_set_5 : decode cX4_set 5 = .ok (.iconst 0, 1) := by decide +kernel
theorem dX4_set_6 : decode cX4_set 6 = .ok (.getstatic 102, 3) := by decide +kernel
theorem dX4_set_9 : decode cX4_set 9 = .ok (.iload_n 1, 1) := by decide +kernel
theorem dX4_set_10 : decode cX4_set 10 = .ok (.iaload, 1) := by decide +kernel
theorem dX4_set_11 : decode cX4_set 11 = .ok (.invokestatic 51, 3) := by decide +kernel
theorem dX4_set_14 : decode cX4_set 14 = .ok (.aload_n 0, 1) := by decide +kernel
theorem dX4_set_15 : decode cX4_set 15 = .ok (.getfield 22, 3) := by decide +kernel
theorem dX4_set_18 : decode cX4_set 18 = .ok (.aload_n 0, 1) := by decide +kernel
theorem dX4_set_19 : decode cX4_set 19 = .ok (.getfield 12, 3) := by decide +kernel
theorem dX4_set_22 : decode cX4_set 22 = .ok (.invokevirtual 40, 3) := by decide +kernel
theorem dX4_set_25 : decode cX4_set 25 = .ok (.aload_n 0, 1) := by decide +kernel
theorem dX4_set_26 : decode cX4_set 26 = .ok (.getfield 12, 3) := by decide +kernel
theorem dX4_set_29 : decode cX4_set 29 = .ok (.getfield 105, 3) := by decide +kernel
theorem dX4_set_32 : decode cX4_set 32 = .ok (.iload_n 1, 1) := by decide +kernel
theorem dX4_set_33 : decode cX4_set 33 = .ok (.iaload, 1) := by decide +kernel
theorem dX4_set_34 : decode cX4_set 34 = .ok (.istore_n 3, 1) := by decide +kernel
theorem dX4_set_35 : decode cX4_set 35 = .ok (.aload_n 0, 1) := by decide +kernel
theorem dX4_set_36 : decode cX4_set 36 = .ok (.getfield 12, 3) := by decide +kernel
theorem dX4_set_39 : decode cX4_set 39 = .ok (.getfield 105, 3) := by decide +kernel
theorem dX4_set_42 : decode cX4_set 42 = .ok (.iload_n 1, 1) := by decide +kernel
theorem dX4_set_43 : decode cX4_set 43 = .ok (.iload_n 2, 1) := by decide +kernel
theorem dX4_set_44 : decode cX4_set 44 = .ok (.iastore, 1) := by decide +kernel
theorem dX4_set_45 : decode cX4_set 45 = .ok (.aload_n 0, 1) := by decide +kernel
theorem dX4_set_46 : decode cX4_set 46 = .ok (.getfield 12, 3) := by decide +kernel
theorem dX4_set_49 : decode cX4_set 49 = .ok (.invokevirtual 84, 3) := by decide +kernel
theorem dX4_set_52 : decode cX4_set 52 = .ok (.iload_n 3, 1) := by decide +kernel
theorem dX4_set_53 : decode cX4_set 53 = .ok (.ireturn, 1) := by decide +kernel
set_option maxRecDepth 20000 in
theorem ggX4_step_X4_requireBetween : GoodIn wsX4_step wsX4_requireBetween := goodIn_ca (goodIn_r _ [6, 7, 8] (by decide +kernel) (by decide +kernel)) (goodIn_sub (fun _ h => List.mem_cons_of_mem _ (List.mem_append_right _ h)) (by decide +kernel))
set_option maxRecDepth 20000 in
theorem gX4_step_X4_requireBetween : GoodIn wsX4_step (va_wsS RX4 51 yX4_requireBetween wsX4_requireBetween) := goodIn_app (goodIn_of _ (by decide +kernel)) ggX4_step_X4_requireBetween
set_option maxRecDepth 20000 in
theorem ggX4_step_X3_save : GoodIn wsX4_step wsX3_save := goodIn_r _ [13, 14, 15, 16, 17, 18, 19, 20, 21, 22, 23, 24, 25, 26, 27, 28, 29, 30, 31, 32, 33, 34, 73, 74, 75, 76, 77, 78, 79, 80, 81, 82, 83, 84, 85, 86, 87, 88] (by decide +kernel) (by decide +kernel)
set_option maxRecDepth 20000 in
theorem gX4_step_X3_save : GoodIn wsX4_step (wsV RX4 40 RX3 yX3_save wsX3_save) := goodIn_app (goodIn_of _ (by decide +kernel)) ggX4_step_X3_save
set_option maxRecDepth 20000 in
theorem ggX4_step_X2_letGoBy : GoodIn wsX4_step wsX2_letGoBy := goodIn_r _ [38, 34, 39, 40, 41, 20, 42, 22, 43, 44, 45, 46, 24, 29, 30, 23, 47, 5, 48, 49, 50, 51, 52, 53, 54, 27, 28, 55, 56, 57, 58, 31, 59, 60, 61, 62, 63, 64, 65, 66, 67, 68, 76, 77, 78, 79, 80, 81, 82, 83, 84, 85, 86, 87, 88] (by decide +kernel) (by decide +kernel)
set_option maxRecDepth 20000 in
theorem gX4_step_X2_letGoBy : GoodIn wsX4_step (wsV RX4 108 RX2 yX2_letGoBy wsX2_letGoBy) := goodIn_app (goodIn_of _ (by decide +kernel)) ggX4_step_X2_letGoBy
theorem dX4_step_0 : decode cX4_step 0 = .ok (.iload_n 1, 1) := by decide +kernel
theorem dX4_step_1 : decode cX4_step 1 = .ok (.iconst 1, 1) := by decide +kernel
theorem dX4_step_2 : decode cX4_step 2 = .ok (.bipush 50, 2) := by decide +kernel
theorem dX4_step_4 : decode cX4_step 4 = .ok (.invokestatic 51, 3) := by decide +kernel
theorem dX4_step_7 : decode cX4_step 7 = .ok (.aload_n 0, 1) := by decide +kernel
theorem dX4_step_8 : decode cX4_step 8 = .ok (.getfield 22, 3) := by decide +kernel
theorem dX4_step_11 : decode cX4_step 11 = .ok (.aload_n 0, 1) := by decide +kernel
theorem dX4_step_12 : decode cX4_step 12 = .ok (.getfield 12, 3) := by decide +kernel
theorem dX4_step_15 : decode cX4_step 15 = .ok (.invokevirtual 40, 3) := by decide +kernel
theorem dX4_step_18 : decode cX4_step 18 = .ok (.aload_n 0, 1) := by decide +kernel
theorem dX4_step_19 : decode cX4_step 19 = .ok (.getfield 12, 3) := by decide +kernel
theorem dX4_step_22 : decode cX4_step 22 = .ok (.iload_n 1, 1) := by decide +kernel
theorem dX4_step_23 : decode cX4_step 23 = .ok (.invokevirtual 108, 3) := by decide +kernel
theorem dX4_step_26 : decode cX4_step 26 = .ok (.ireturn, 1) := by decide +kernel
set_option maxRecDepth 20000 in
theorem ggX4_undo_X3_restoreInto : GoodIn wsX4_undo wsX3_restoreInto := goodIn_r _ [9, 10, 11, 12, 13, 14, 15, 16, 17, 18, 19, 20, 21, 22, 23, 24, 25, 26, 27, 28, 29, 30, 35, 36, 37, 38, 39, 40, 41, 42, 43, 44, 45, 46, 47, 48, 49, 50] (by decide +kernel) (by decide +kernel)
set_option maxRecDepth 20000 in
theorem gX4_undo_X3_restoreInto : GoodIn wsX4_undo (wsV RX4 143 RX3 yX3_restoreInto wsX3_restoreInto) := goodIn_app (goodIn_of _ (by decide +kernel)) ggX4_undo_X3_restoreInto
theorem dX4_undo_0 : decode cX4_undo 0 = .ok (.aload_n 0, 1) := by decide +kernel
theorem dX4_undo_1 : decode cX4_undo 1 = .ok (.getfield 22, 3) := by decide +kernel
theorem dX4_undo_4 : decode cX4_undo 4 = .ok (.getfield 138, 3) := by decide +kernel
theorem dX4_undo_7 : decode cX4_undo 7 = .ok (.ifCond .ne 13, 3) := by decide +kernel
theorem dX4_undo_10 : decode cX4_undo 10 = .ok (.new 74, 3) := by decide +kernel
theorem dX4_undo_13 : decode cX4_undo 13 = .ok (.dup, 1) := by decide +kernel
theorem dX4_undo_14 : decode cX4_undo 14 = .ok (.ldc 141, 2) := by decide +kernel
theorem dX4_undo_16 : decode cX4_undo 16 = .ok (.invokespecial 78, 3) := by decide +kernel
theorem dX4_undo_19 : decode cX4_undo 19 = .ok (.athrow, 1) := by decide +kernel
theorem dX4_undo_20 : decode cX4_undo 20 = .ok (.aload_n 0, 1) := by decide +kernel
theorem dX4_undo_21 : decode cX4_undo 21 = .ok (.getfield 22, 3) := by decide +kernel
theorem dX4_undo_24 : decode cX4_undo 24 = .ok (.aload_n 0, 1) := by decide +kernel
theorem dX4_undo_25 : decode cX4_undo 25 = .ok (.getfield 12, 3) := by decide +kernel
theorem dX4_undo_28 : decode cX4_undo 28 = .ok (.invokevirtual 143, 3) := by decide +kernel
theorem dX4_undo_31 : decode cX4_undo 31 = .ok (.aload_n 0, 1) := by decide +kernel
theorem dX4_undo_32 : decode cX4_undo 32 = .ok (.getfield 22, 3) := by decide +kernel
theorem dX4_undo_35 : decode cX4_undo 35 = .ok (.getfield 138, 3) := by decide +kernel
theorem dX4_undo_38 : decode cX4_undo 38 = .ok (.ireturn, 1) := by decide +kernel
set_option maxRecDepth 20000 in
theorem ggX4_cell_X4_requireCell : GoodIn wsX4_cell wsX4_requireCell := goodIn_ca (goodIn_r _ [8, 9, 10] (by decide +kernel) (by decide +kernel)) (goodIn_sub (fun _ h => List.mem_cons_of_mem _ (List.mem_append_right _ h)) (by decide +kernel))
set_option maxRecDepth 20000 in
theorem gX4_cell_X4_requireCell : GoodIn wsX4_cell (va_wsS RX4 33 yX4_requireCell wsX4_requireCell) := goodIn_app (goodIn_of _ (by decide +kernel)) ggX4_cell_X4_requireCell
set_option maxRecDepth 20000 in
theorem ggX4_cell_X2_aim : GoodIn wsX4_cell wsX2_aim := goodIn_r _ [15, 16, 17, 18, 7, 19, 42, 43, 44, 45, 46, 47, 48, 49, 50, 51, 52, 53, 54] (by decide +kernel) (by decide +kernel)
set_option maxRecDepth 20000 in
theorem gX4_cell_X2_aim : GoodIn wsX4_cell (wsV RX4 153 RX2 yX2_aim wsX2_aim) := goodIn_app (goodIn_of _ (by decide +kernel)) ggX4_cell_X2_aim
set_option maxRecDepth 20000 in
theorem ggX4_cell_X2_wouldTurn : GoodIn wsX4_cell wsX2_wouldTurn := goodIn_r _ [23, 24, 25, 26, 27, 14, 28, 29, 16, 17, 30, 18, 7, 19, 31, 32, 42, 43, 44, 45, 46, 47, 48, 49, 50, 51, 52, 53, 54] (by decide +kernel) (by decide +kernel)
set_option maxRecDepth 20000 in
theorem gX4_cell_X2_wouldTurn : GoodIn wsX4_cell (wsV RX4 156 RX2 yX2_wouldTurn wsX2_wouldTurn) := goodIn_app (goodIn_of _ (by decide +kernel)) ggX4_cell_X2_wouldTurn
set_option maxRecDepth 20000 in
theorem ggX4_cell_X2_awayFromAim : GoodIn wsX4_cell wsX2_awayFromAim := goodIn_r _ [36, 24, 37, 12, 13, 14, 15, 16, 17, 18, 7, 19, 31, 32, 42, 43, 44, 45, 46, 47, 48, 49, 50, 51, 52, 53, 54] (by decide +kernel) (by decide +kernel)
set_option maxRecDepth 20000 in
theorem gX4_cell_X2_awayFromAim : GoodIn wsX4_cell (wsV RX4 159 RX2 yX2_awayFromAim wsX2_awayFromAim) := goodIn_app (goodIn_of _ (by decide +kernel)) ggX4_cell_X2_awayFromAim
theorem dX4_cell_0 : decode cX4_cell 0 = .ok (.iload_n 1, 1) := by decide +kernel
theorem dX4_cell_1 : decode cX4_cell 1 = .ok (.invokestatic 33, 3) := by decide +kernel
theorem dX4_cell_4 : decode cX4_cell 4 = .ok (.iload_n 2, 1) := by decide +kernel
theorem dX4_cell_5 : decode cX4_cell 5 = .ok (.tableswitch 146 0 7 #[47, 57, 67, 85, 98, 111, 120, 137], 47) := by decide +kernel
theorem dX4_cell_52 : decode cX4_cell 52 = .ok (.aload_n 0, 1) := by decide +kernel
theorem dX4_cell_53 : decode cX4_cell 53 = .ok (.getfield 12, 3) := by decide +kernel
theorem dX4_cell_56 : decode cX4_cell 56 = .ok (.getfield 44, 3) := by decide +kernel
theorem dX4_cell_59 : decode cX4_cell 59 = .ok (.iload_n 1, 1) := by decide +kernel
theorem dX4_cell_60 : decode cX4_cell 60 = .ok (.iaload, 1) := by decide +kernel
theorem dX4_cell_61 : decode cX4_cell 61 = .ok (.ireturn, 1) := by decide +kernel
theorem dX4_cell_62 : decode cX4_cell 62 = .ok (.aload_n 0, 1) := by decide +kernel
theorem dX4_cell_63 : decode cX4_cell 63 = .ok (.getfield 12, 3) := by decide +kernel
theorem dX4_cell_66 : decode cX4_cell 66 = .ok (.getfield 55, 3) := by decide +kernel
theorem dX4_cell_69 : decode cX4_cell 69 = .ok (.iload_n 1, 1) := by decide +kernel
theorem dX4_cell_70 : decode cX4_cell 70 = .ok (.iaload, 1) := by decide +kernel
theorem dX4_cell_71 : decode cX4_cell 71 = .ok (.ireturn, 1) := by decide +kernel
theorem dX4_cell_72 : decode cX4_cell 72 = .ok (.aload_n 0, 1) := by decide +kernel
theorem dX4_cell_73 : decode cX4_cell 73 = .ok (.getfield 12, 3) := by decide +kernel
theorem dX4_cell_76 : decode cX4_cell 76 = .ok (.getfield 58, 3) := by decide +kernel
theorem dX4_cell_79 : decode cX4_cell 79 = .ok (.iload_n 1, 1) := by decide +kernel
theorem dX4_cell_80 : decode cX4_cell 80 = .ok (.baload, 1) := by decide +kernel
theorem dX4_cell_81 : decode cX4_cell 81 = .ok (.ifCond .eq 7, 3) := by decide +kernel
theorem dX4_cell_84 : decode cX4_cell 84 = .ok (.iconst 1, 1) := by decide +kernel
theorem dX4_cell_85 : decode cX4_cell 85 = .ok (.goto 4, 3) := by decide +kernel
theorem dX4_cell_88 : decode cX4_cell 88 = .ok (.iconst 0, 1) := by decide +kernel
theorem dX4_cell_89 : decode cX4_cell 89 = .ok (.ireturn, 1) := by decide +kernel
theorem dX4_cell_90 : decode cX4_cell 90 = .ok (.aload_n 0, 1) := by decide +kernel
theorem dX4_cell_91 : decode cX4_cell 91 = .ok (.getfield 12, 3) := by decide +kernel
theorem dX4_cell_94 : decode cX4_cell 94 = .ok (.getfield 146, 3) := by decide +kernel
theorem dX4_cell_97 : decode cX4_cell 97 = .ok (.iload_n 1, 1) := by decide +kernel
theorem dX4_cell_98 : decode cX4_cell 98 = .ok (.iaload, 1) := by decide +kernel
theorem dX4_cell_99 : decode cX4_cell 99 = .ok (.ldc 149, 2) := by decide +kernel
theorem dX4_cell_101 : decode cX4_cell 101 = .ok (.iadd, 1) := by decide +kernel
theorem dX4_cell_102 : decode cX4_cell 102 = .ok (.ireturn, 1) := by decide +kernel
theorem dX4_cell_103 : decode cX4_cell 103 = .ok (.aload_n 0, 1) := by decide +kernel
theorem dX4_cell_104 : decode cX4_cell 104 = .ok (.getfield 12, 3) := by decide +kernel
theorem dX4_cell_107 : decode cX4_cell 107 = .ok (.getfield 150, 3) := by decide +kernel
theorem dX4_cell_110 : decode cX4_cell 110 = .ok (.iload_n 1, 1) := by decide +kernel
theorem dX4_cell_111 : decode cX4_cell 111 = .ok (.iaload, 1) := by decide +kernel
theorem dX4_cell_112 : decode cX4_cell 112 = .ok (.ldc 149, 2) := by decide +kernel
