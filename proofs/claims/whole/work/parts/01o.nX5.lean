theorem dX5_lying_15 : decode cX5_lying 15 = .ok (.iload_n 2, 1) := by decide +kernel
theorem dX5_lying_16 : decode cX5_lying 16 = .ok (.iadd, 1) := by decide +kernel
theorem dX5_lying_17 : decode cX5_lying 17 = .ok (.iaload, 1) := by decide +kernel
theorem dX5_lying_18 : decode cX5_lying 18 = .ok (.ifCond .le 7, 3) := by decide +kernel
theorem dX5_lying_21 : decode cX5_lying 21 = .ok (.iconst 1, 1) := by decide +kernel
theorem dX5_lying_22 : decode cX5_lying 22 = .ok (.goto 4, 3) := by decide +kernel
theorem dX5_lying_25 : decode cX5_lying 25 = .ok (.iconst 0, 1) := by decide +kernel
theorem dX5_lying_26 : decode cX5_lying 26 = .ok (.iadd, 1) := by decide +kernel
theorem dX5_lying_27 : decode cX5_lying 27 = .ok (.istore_n 1, 1) := by decide +kernel
theorem dX5_lying_28 : decode cX5_lying 28 = .ok (.iinc 2 1, 3) := by decide +kernel
theorem dX5_lying_31 : decode cX5_lying 31 = .ok (.goto (-27), 3) := by decide +kernel
theorem dX5_lying_34 : decode cX5_lying 34 = .ok (.iload_n 1, 1) := by decide +kernel
theorem dX5_lying_35 : decode cX5_lying 35 = .ok (.ireturn, 1) := by decide +kernel
set_option maxRecDepth 20000 in
theorem ggX5_isBar_X5_isDirection : GoodIn wsX5_isBar wsX5_isDirection := goodIn_r _ [4, 5, 6, 3, 7] (by decide +kernel) (by decide +kernel)
set_option maxRecDepth 20000 in
theorem gX5_isBar_X5_isDirection : GoodIn wsX5_isBar (va_wsS RX5 85 yX5_isDirection wsX5_isDirection) := goodIn_app (goodIn_of _ (by decide +kernel)) ggX5_isBar_X5_isDirection
set_option maxRecDepth 20000 in
theorem ggX5_isBar_X5_in : GoodIn wsX5_isBar wsX5_in := goodIn_r _ [7] (by decide +kernel) (by decide +kernel)
set_option maxRecDepth 20000 in
theorem gX5_isBar_X5_in : GoodIn wsX5_isBar (va_wsS RX5 32 yX5_in wsX5_in) := goodIn_app (goodIn_of _ (by decide +kernel)) ggX5_isBar_X5_in
theorem dX5_isBar_0 : decode cX5_isBar 0 = .ok (.iload_n 0, 1) := by decide +kernel
theorem dX5_isBar_1 : decode cX5_isBar 1 = .ok (.invokestatic 85, 3) := by decide +kernel
theorem dX5_isBar_4 : decode cX5_isBar 4 = .ok (.ifCond .eq 17, 3) := by decide +kernel
theorem dX5_isBar_7 : decode cX5_isBar 7 = .ok (.iload_n 1, 1) := by decide +kernel
theorem dX5_isBar_8 : decode cX5_isBar 8 = .ok (.iconst 1, 1) := by decide +kernel
theorem dX5_isBar_9 : decode cX5_isBar 9 = .ok (.bipush 50, 2) := by decide +kernel
theorem dX5_isBar_11 : decode cX5_isBar 11 = .ok (.invokestatic 32, 3) := by decide +kernel
theorem dX5_isBar_14 : decode cX5_isBar 14 = .ok (.ifCond .eq 7, 3) := by decide +kernel
theorem dX5_isBar_17 : decode cX5_isBar 17 = .ok (.iconst 1, 1) := by decide +kernel
theorem dX5_isBar_18 : decode cX5_isBar 18 = .ok (.goto 4, 3) := by decide +kernel
theorem dX5_isBar_21 : decode cX5_isBar 21 = .ok (.iconst 0, 1) := by decide +kernel
theorem dX5_isBar_22 : decode cX5_isBar 22 = .ok (.ireturn, 1) := by decide +kernel
theorem dX5_laysBar_0 : decode cX5_laysBar 0 = .ok (.aload_n 0, 1) := by decide +kernel
theorem dX5_laysBar_1 : decode cX5_laysBar 1 = .ok (.bipush 114, 2) := by decide +kernel
theorem dX5_laysBar_3 : decode cX5_laysBar 3 = .ok (.iload_n 1, 1) := by decide +kernel
theorem dX5_laysBar_4 : decode cX5_laysBar 4 = .ok (.iadd, 1) := by decide +kernel
theorem dX5_laysBar_5 : decode cX5_laysBar 5 = .ok (.iload_n 2, 1) := by decide +kernel
theorem dX5_laysBar_6 : decode cX5_laysBar 6 = .ok (.iastore, 1) := by decide +kernel
theorem dX5_laysBar_7 : decode cX5_laysBar 7 = .ok (.aload_n 0, 1) := by decide +kernel
theorem dX5_laysBar_8 : decode cX5_laysBar 8 = .ok (.sipush 150, 3) := by decide +kernel
theorem dX5_laysBar_11 : decode cX5_laysBar 11 = .ok (.iload_n 1, 1) := by decide +kernel
theorem dX5_laysBar_12 : decode cX5_laysBar 12 = .ok (.iadd, 1) := by decide +kernel
theorem dX5_laysBar_13 : decode cX5_laysBar 13 = .ok (.iload_n 3, 1) := by decide +kernel
theorem dX5_laysBar_14 : decode cX5_laysBar 14 = .ok (.iastore, 1) := by decide +kernel
theorem dX5_laysBar_15 : decode cX5_laysBar 15 = .ok (.return_, 1) := by decide +kernel
set_option maxRecDepth 20000 in
theorem ggX5_bar_X5_isCell : GoodIn wsX5_bar wsX5_isCell := goodIn_r _ [6, 7, 8, 5, 9] (by decide +kernel) (by decide +kernel)
set_option maxRecDepth 20000 in
theorem gX5_bar_X5_isCell : GoodIn wsX5_bar (va_wsS RX5 81 yX5_isCell wsX5_isCell) := goodIn_app (goodIn_of _ (by decide +kernel)) ggX5_bar_X5_isCell
set_option maxRecDepth 20000 in
theorem ggX5_bar_X5_fails : GoodIn wsX5_bar wsX5_fails := goodIn_r _ [13, 1, 35, 36, 37, 38, 39, 40, 41, 42, 43, 44, 45, 46, 47, 48] (by decide +kernel) (by decide +kernel)
set_option maxRecDepth 20000 in
theorem gX5_bar_X5_fails : GoodIn wsX5_bar (wsV RX5 43 RX5 yX5_fails wsX5_fails) := goodIn_app (goodIn_of _ (by decide +kernel)) ggX5_bar_X5_fails
set_option maxRecDepth 20000 in
theorem ggX5_bar_X5_isBar : GoodIn wsX5_bar wsX5_isBar := goodIn_r _ [16, 17, 18, 5, 19, 7, 8, 9] (by decide +kernel) (by decide +kernel)
set_option maxRecDepth 20000 in
theorem gX5_bar_X5_isBar : GoodIn wsX5_bar (va_wsS RX5 95 yX5_isBar wsX5_isBar) := goodIn_app (goodIn_of _ (by decide +kernel)) ggX5_bar_X5_isBar
set_option maxRecDepth 20000 in
theorem ggX5_bar_X5_lying : GoodIn wsX5_bar wsX5_lying := goodIn_r _ [22] (by decide +kernel) (by decide +kernel)
set_option maxRecDepth 20000 in
theorem gX5_bar_X5_lying : GoodIn wsX5_bar (va_wsS RX5 99 yX5_lying wsX5_lying) := goodIn_app (goodIn_of _ (by decide +kernel)) ggX5_bar_X5_lying
set_option maxRecDepth 20000 in
theorem ggX5_bar_X5_saves : GoodIn wsX5_bar wsX5_saves := goodIn_r _ [26, 27, 28, 2, 29, 30, 5, 31, 35, 36, 37, 38, 39, 40, 41, 42, 43, 44, 45, 46, 47, 48] (by decide +kernel) (by decide +kernel)
set_option maxRecDepth 20000 in
theorem gX5_bar_X5_saves : GoodIn wsX5_bar (wsV RX5 88 RX5 yX5_saves wsX5_saves) := goodIn_app (goodIn_of _ (by decide +kernel)) ggX5_bar_X5_saves
set_option maxRecDepth 20000 in
theorem ggX5_bar_X5_laysBar : GoodIn wsX5_bar wsX5_laysBar := goodIn_r _ [34] (by decide +kernel) (by decide +kernel)
set_option maxRecDepth 20000 in
theorem gX5_bar_X5_laysBar : GoodIn wsX5_bar (va_wsS RX5 103 yX5_laysBar wsX5_laysBar) := goodIn_app (goodIn_of _ (by decide +kernel)) ggX5_bar_X5_laysBar
theorem dX5_bar_0 : decode cX5_bar 0 = .ok (.aload_n 0, 1) := by decide +kernel
theorem dX5_bar_1 : decode cX5_bar 1 = .ok (.iconst 0, 1) := by decide +kernel
theorem dX5_bar_2 : decode cX5_bar 2 = .ok (.putfield 28, 3) := by decide +kernel
theorem dX5_bar_5 : decode cX5_bar 5 = .ok (.iload_n 1, 1) := by decide +kernel
theorem dX5_bar_6 : decode cX5_bar 6 = .ok (.invokestatic 81, 3) := by decide +kernel
theorem dX5_bar_9 : decode cX5_bar 9 = .ok (.ifCond .ne 9, 3) := by decide +kernel
theorem dX5_bar_12 : decode cX5_bar 12 = .ok (.aload_n 0, 1) := by decide +kernel
theorem dX5_bar_13 : decode cX5_bar 13 = .ok (.iconst 1, 1) := by decide +kernel
theorem dX5_bar_14 : decode cX5_bar 14 = .ok (.invokevirtual 43, 3) := by decide +kernel
theorem dX5_bar_17 : decode cX5_bar 17 = .ok (.ireturn, 1) := by decide +kernel
theorem dX5_bar_18 : decode cX5_bar 18 = .ok (.iload_n 2, 1) := by decide +kernel
theorem dX5_bar_19 : decode cX5_bar 19 = .ok (.iload_n 3, 1) := by decide +kernel
theorem dX5_bar_20 : decode cX5_bar 20 = .ok (.invokestatic 95, 3) := by decide +kernel
theorem dX5_bar_23 : decode cX5_bar 23 = .ok (.ifCond .ne 9, 3) := by decide +kernel
theorem dX5_bar_26 : decode cX5_bar 26 = .ok (.aload_n 0, 1) := by decide +kernel
theorem dX5_bar_27 : decode cX5_bar 27 = .ok (.iconst 2, 1) := by decide +kernel
theorem dX5_bar_28 : decode cX5_bar 28 = .ok (.invokevirtual 43, 3) := by decide +kernel
theorem dX5_bar_31 : decode cX5_bar 31 = .ok (.ireturn, 1) := by decide +kernel
theorem dX5_bar_32 : decode cX5_bar 32 = .ok (.aload_n 0, 1) := by decide +kernel
theorem dX5_bar_33 : decode cX5_bar 33 = .ok (.getfield 7, 3) := by decide +kernel
theorem dX5_bar_36 : decode cX5_bar 36 = .ok (.invokestatic 99, 3) := by decide +kernel
theorem dX5_bar_39 : decode cX5_bar 39 = .ok (.bipush 6, 2) := by decide +kernel
theorem dX5_bar_41 : decode cX5_bar 41 = .ok (.if_icmp .ne 22, 3) := by decide +kernel
theorem dX5_bar_44 : decode cX5_bar 44 = .ok (.aload_n 0, 1) := by decide +kernel
theorem dX5_bar_45 : decode cX5_bar 45 = .ok (.getfield 7, 3) := by decide +kernel
theorem dX5_bar_48 : decode cX5_bar 48 = .ok (.sipush 150, 3) := by decide +kernel
theorem dX5_bar_51 : decode cX5_bar 51 = .ok (.iload_n 1, 1) := by decide +kernel
theorem dX5_bar_52 : decode cX5_bar 52 = .ok (.iadd, 1) := by decide +kernel
theorem dX5_bar_53 : decode cX5_bar 53 = .ok (.iaload, 1) := by decide +kernel
theorem dX5_bar_54 : decode cX5_bar 54 = .ok (.ifCond .ne 9, 3) := by decide +kernel
theorem dX5_bar_57 : decode cX5_bar 57 = .ok (.aload_n 0, 1) := by decide +kernel
theorem dX5_bar_58 : decode cX5_bar 58 = .ok (.iconst 3, 1) := by decide +kernel
theorem dX5_bar_59 : decode cX5_bar 59 = .ok (.invokevirtual 43, 3) := by decide +kernel
theorem dX5_bar_62 : decode cX5_bar 62 = .ok (.ireturn, 1) := by decide +kernel
theorem dX5_bar_63 : decode cX5_bar 63 = .ok (.aload_n 0, 1) := by decide +kernel
theorem dX5_bar_64 : decode cX5_bar 64 = .ok (.invokevirtual 88, 3) := by decide +kernel
theorem dX5_bar_67 : decode cX5_bar 67 = .ok (.aload_n 0, 1) := by decide +kernel
theorem dX5_bar_68 : decode cX5_bar 68 = .ok (.getfield 7, 3) := by decide +kernel
theorem dX5_bar_71 : decode cX5_bar 71 = .ok (.iload_n 1, 1) := by decide +kernel
theorem dX5_bar_72 : decode cX5_bar 72 = .ok (.iload_n 2, 1) := by decide +kernel
theorem dX5_bar_73 : decode cX5_bar 73 = .ok (.iload_n 3, 1) := by decide +kernel
theorem dX5_bar_74 : decode cX5_bar 74 = .ok (.invokestatic 103, 3) := by decide +kernel
theorem dX5_bar_77 : decode cX5_bar 77 = .ok (.aload_n 0, 1) := by decide +kernel
theorem dX5_bar_78 : decode cX5_bar 78 = .ok (.getfield 7, 3) := by decide +kernel
theorem dX5_bar_81 : decode cX5_bar 81 = .ok (.invokestatic 99, 3) := by decide +kernel
theorem dX5_bar_84 : decode cX5_bar 84 = .ok (.ireturn, 1) := by decide +kernel
set_option maxRecDepth 20000 in
theorem ggX5_unbar_X5_isCell : GoodIn wsX5_unbar wsX5_isCell := goodIn_r _ [6, 7, 8, 5, 9] (by decide +kernel) (by decide +kernel)
set_option maxRecDepth 20000 in
theorem gX5_unbar_X5_isCell : GoodIn wsX5_unbar (va_wsS RX5 81 yX5_isCell wsX5_isCell) := goodIn_app (goodIn_of _ (by decide +kernel)) ggX5_unbar_X5_isCell
set_option maxRecDepth 20000 in
theorem ggX5_unbar_X5_fails : GoodIn wsX5_unbar wsX5_fails := goodIn_r _ [13, 1, 29, 30, 31, 32, 33, 34, 35, 36, 37, 38, 39, 40, 41, 42] (by decide +kernel) (by decide +kernel)
set_option maxRecDepth 20000 in
theorem gX5_unbar_X5_fails : GoodIn wsX5_unbar (wsV RX5 43 RX5 yX5_fails wsX5_fails) := goodIn_app (goodIn_of _ (by decide +kernel)) ggX5_unbar_X5_fails
set_option maxRecDepth 20000 in
theorem ggX5_unbar_X5_saves : GoodIn wsX5_unbar wsX5_saves := goodIn_r _ [17, 18, 19, 2, 20, 21, 5, 22, 29, 30, 31, 32, 33, 34, 35, 36, 37, 38, 39, 40, 41, 42] (by decide +kernel) (by decide +kernel)
set_option maxRecDepth 20000 in
theorem gX5_unbar_X5_saves : GoodIn wsX5_unbar (wsV RX5 88 RX5 yX5_saves wsX5_saves) := goodIn_app (goodIn_of _ (by decide +kernel)) ggX5_unbar_X5_saves
set_option maxRecDepth 20000 in
theorem ggX5_unbar_X5_laysBar : GoodIn wsX5_unbar wsX5_laysBar := goodIn_r _ [25] (by decide +kernel) (by decide +kernel)
set_option maxRecDepth 20000 in
theorem gX5_unbar_X5_laysBar : GoodIn wsX5_unbar (va_wsS RX5 103 yX5_laysBar wsX5_laysBar) := goodIn_app (goodIn_of _ (by decide +kernel)) ggX5_unbar_X5_laysBar
set_option maxRecDepth 20000 in
theorem ggX5_unbar_X5_lying : GoodIn wsX5_unbar wsX5_lying := goodIn_r _ [28] (by decide +kernel) (by decide +kernel)
set_option maxRecDepth 20000 in
theorem gX5_unbar_X5_lying : GoodIn wsX5_unbar (va_wsS RX5 99 yX5_lying wsX5_lying) := goodIn_app (goodIn_of _ (by decide +kernel)) ggX5_unbar_X5_lying
theorem dX5_unbar_0 : decode cX5_unbar 0 = .ok (.aload_n 0, 1) := by decide +kernel
theorem dX5_unbar_1 : decode cX5_unbar 1 = .ok (.iconst 0, 1) := by decide +kernel
theorem dX5_unbar_2 : decode cX5_unbar 2 = .ok (.putfield 28, 3) := by decide +kernel
theorem dX5_unbar_5 : decode cX5_unbar 5 = .ok (.iload_n 1, 1) := by decide +kernel
theorem dX5_unbar_6 : decode cX5_unbar 6 = .ok (.invokestatic 81, 3) := by decide +kernel
theorem dX5_unbar_9 : decode cX5_unbar 9 = .ok (.ifCond .ne 9, 3) := by decide +kernel
theorem dX5_unbar_12 : decode cX5_unbar 12 = .ok (.aload_n 0, 1) := by decide +kernel
theorem dX5_unbar_13 : decode cX5_unbar 13 = .ok (.iconst 1, 1) := by decide +kernel
theorem dX5_unbar_14 : decode cX5_unbar 14 = .ok (.invokevirtual 43, 3) := by decide +kernel
theorem dX5_unbar_17 : decode cX5_unbar 17 = .ok (.ireturn, 1) := by decide +kernel
theorem dX5_unbar_18 : decode cX5_unbar 18 = .ok (.aload_n 0, 1) := by decide +kernel
theorem dX5_unbar_19 : decode cX5_unbar 19 = .ok (.getfield 7, 3) := by decide +kernel
theorem dX5_unbar_22 : decode cX5_unbar 22 = .ok (.sipush 150, 3) := by decide +kernel
theorem dX5_unbar_25 : decode cX5_unbar 25 = .ok (.iload_n 1, 1) := by decide +kernel
theorem dX5_unbar_26 : decode cX5_unbar 26 = .ok (.iadd, 1) := by decide +kernel
theorem dX5_unbar_27 : decode cX5_unbar 27 = .ok (.iaload, 1) := by decide +kernel
theorem dX5_unbar_28 : decode cX5_unbar 28 = .ok (.ifCond .ne 9, 3) := by decide +kernel
theorem dX5_unbar_31 : decode cX5_unbar 31 = .ok (.aload_n 0, 1) := by decide +kernel
theorem dX5_unbar_32 : decode cX5_unbar 32 = .ok (.iconst 2, 1) := by decide +kernel
theorem dX5_unbar_33 : decode cX5_unbar 33 = .ok (.invokevirtual 43, 3) := by decide +kernel
theorem dX5_unbar_36 : decode cX5_unbar 36 = .ok (.ireturn, 1) := by decide +kernel
theorem dX5_unbar_37 : decode cX5_unbar 37 = .ok (.aload_n 0, 1) := by decide +kernel
theorem dX5_unbar_38 : decode cX5_unbar 38 = .ok (.invokevirtual 88, 3) := by decide +kernel
theorem dX5_unbar_41 : decode cX5_unbar 41 = .ok (.aload_n 0, 1) := by decide +kernel
theorem dX5_unbar_42 : decode cX5_unbar 42 = .ok (.getfield 7, 3) := by decide +kernel
theorem dX5_unbar_45 : decode cX5_unbar 45 = .ok (.iload_n 1, 1) := by decide +kernel
theorem dX5_unbar_46 : decode cX5_unbar 46 = .ok (.iconst 0, 1) := by decide +kernel
theorem dX5_unbar_47 : decode cX5_unbar 47 = .ok (.iconst 0, 1) := by decide +kernel
theorem dX5_unbar_48 : decode cX5_unbar 48 = .ok (.invokestatic 103, 3) := by decide +kernel
theorem dX5_unbar_51 : decode cX5_unbar 51 = .ok (.aload_n 0, 1) := by decide +kernel
theorem dX5_unbar_52 : decode cX5_unbar 52 = .ok (.getfield 7, 3) := by decide +kernel
theorem dX5_unbar_55 : decode cX5_unbar 55 = .ok (.invokestatic 99, 3) := by decide +kernel
theorem dX5_unbar_58 : decode cX5_unbar 58 = .ok (.ireturn, 1) := by decide +kernel
set_option maxRecDepth 20000 in
theorem ggX5_coil_X5_in : GoodIn wsX5_coil wsX5_in := goodIn_r _ [6] (by decide +kernel) (by decide +kernel)
set_option maxRecDepth 20000 in
theorem gX5_coil_X5_in : GoodIn wsX5_coil (va_wsS RX5 32 yX5_in wsX5_in) := goodIn_app (goodIn_of _ (by decide +kernel)) ggX5_coil_X5_in
set_option maxRecDepth 20000 in
theorem ggX5_coil_X5_isDirection : GoodIn wsX5_coil wsX5_isDirection := goodIn_r _ [9, 3, 4, 5, 6] (by decide +kernel) (by decide +kernel)
set_option maxRecDepth 20000 in
theorem gX5_coil_X5_isDirection : GoodIn wsX5_coil (va_wsS RX5 85 yX5_isDirection wsX5_isDirection) := goodIn_app (goodIn_of _ (by decide +kernel)) ggX5_coil_X5_isDirection
set_option maxRecDepth 20000 in
theorem ggX5_coil_X5_fails : GoodIn wsX5_coil wsX5_fails := goodIn_r _ [13, 1, 27, 28, 29, 30, 31, 32, 33, 34, 35, 36, 37, 38, 39, 40] (by decide +kernel) (by decide +kernel)
set_option maxRecDepth 20000 in
theorem gX5_coil_X5_fails : GoodIn wsX5_coil (wsV RX5 43 RX5 yX5_fails wsX5_fails) := goodIn_app (goodIn_of _ (by decide +kernel)) ggX5_coil_X5_fails
set_option maxRecDepth 20000 in
theorem ggX5_coil_X5_saves : GoodIn wsX5_coil wsX5_saves := goodIn_r _ [17, 18, 19, 2, 20, 21, 5, 22, 27, 28, 29, 30, 31, 32, 33, 34, 35, 36, 37, 38, 39, 40] (by decide +kernel) (by decide +kernel)
set_option maxRecDepth 20000 in
theorem gX5_coil_X5_saves : GoodIn wsX5_coil (wsV RX5 88 RX5 yX5_saves wsX5_saves) := goodIn_app (goodIn_of _ (by decide +kernel)) ggX5_coil_X5_saves
set_option maxRecDepth 20000 in
theorem ggX5_coil_X5_changes : GoodIn wsX5_coil wsX5_changes := goodIn_r _ [26, 2, 27, 28, 29, 30, 31, 32, 33, 34, 35, 36, 37, 38, 39, 40] (by decide +kernel) (by decide +kernel)
set_option maxRecDepth 20000 in
theorem gX5_coil_X5_changes : GoodIn wsX5_coil (wsV RX5 91 RX5 yX5_changes wsX5_changes) := goodIn_app (goodIn_of _ (by decide +kernel)) ggX5_coil_X5_changes
theorem dX5_coil_0 : decode cX5_coil 0 = .ok (.aload_n 0, 1) := by decide +kernel
theorem dX5_coil_1 : decode cX5_coil 1 = .ok (.iconst 0, 1) := by decide +kernel
theorem dX5_coil_2 : decode cX5_coil 2 = .ok (.putfield 28, 3) := by decide +kernel
theorem dX5_coil_5 : decode cX5_coil 5 = .ok (.iload_n 1, 1) := by decide +kernel
theorem dX5_coil_6 : decode cX5_coil 6 = .ok (.iconst 0, 1) := by decide +kernel
theorem dX5_coil_7 : decode cX5_coil 7 = .ok (.bipush 50, 2) := by decide +kernel
theorem dX5_coil_9 : decode cX5_coil 9 = .ok (.invokestatic 32, 3) := by decide +kernel
theorem dX5_coil_12 : decode cX5_coil 12 = .ok (.ifCond .eq 10, 3) := by decide +kernel
theorem dX5_coil_15 : decode cX5_coil 15 = .ok (.iload_n 2, 1) := by decide +kernel
theorem dX5_coil_16 : decode cX5_coil 16 = .ok (.invokestatic 85, 3) := by decide +kernel
theorem dX5_coil_19 : decode cX5_coil 19 = .ok (.ifCond .ne 9, 3) := by decide +kernel
theorem dX5_coil_22 : decode cX5_coil 22 = .ok (.aload_n 0, 1) := by decide +kernel
theorem dX5_coil_23 : decode cX5_coil 23 = .ok (.iconst 1, 1) := by decide +kernel
theorem dX5_coil_24 : decode cX5_coil 24 = .ok (.invokevirtual 43, 3) := by decide +kernel
theorem dX5_coil_27 : decode cX5_coil 27 = .ok (.ireturn, 1) := by decide +kernel
theorem dX5_coil_28 : decode cX5_coil 28 = .ok (.aload_n 0, 1) := by decide +kernel
theorem dX5_coil_29 : decode cX5_coil 29 = .ok (.invokevirtual 88, 3) := by decide +kernel
theorem dX5_coil_32 : decode cX5_coil 32 = .ok (.aload_n 0, 1) := by decide +kernel
theorem dX5_coil_33 : decode cX5_coil 33 = .ok (.getfield 7, 3) := by decide +kernel
theorem dX5_coil_36 : decode cX5_coil 36 = .ok (.iconst 5, 1) := by decide +kernel
theorem dX5_coil_37 : decode cX5_coil 37 = .ok (.iload_n 2, 1) := by decide +kernel
theorem dX5_coil_38 : decode cX5_coil 38 = .ok (.iastore, 1) := by decide +kernel
theorem dX5_coil_39 : decode cX5_coil 39 = .ok (.aload_n 0, 1) := by decide +kernel
theorem dX5_coil_40 : decode cX5_coil 40 = .ok (.iconst 4, 1) := by decide +kernel
theorem dX5_coil_41 : decode cX5_coil 41 = .ok (.iload_n 1, 1) := by decide +kernel
theorem dX5_coil_42 : decode cX5_coil 42 = .ok (.invokevirtual 91, 3) := by decide +kernel
theorem dX5_coil_45 : decode cX5_coil 45 = .ok (.ireturn, 1) := by decide +kernel
set_option maxRecDepth 20000 in
theorem ggX5_set_X5_in : GoodIn wsX5_set wsX5_in := goodIn_r _ [5] (by decide +kernel) (by decide +kernel)
set_option maxRecDepth 20000 in
theorem gX5_set_X5_in : GoodIn wsX5_set (va_wsS RX5 32 yX5_in wsX5_in) := goodIn_app (goodIn_of _ (by decide +kernel)) ggX5_set_X5_in
set_option maxRecDepth 20000 in
theorem ggX5_set_X5_fails : GoodIn wsX5_set wsX5_fails := goodIn_r _ [9, 1, 24, 25, 26, 27, 28, 29, 30, 31, 32, 33, 34, 35, 36, 37] (by decide +kernel) (by decide +kernel)
set_option maxRecDepth 20000 in
theorem gX5_set_X5_fails : GoodIn wsX5_set (wsV RX5 43 RX5 yX5_fails wsX5_fails) := goodIn_app (goodIn_of _ (by decide +kernel)) ggX5_set_X5_fails
set_option maxRecDepth 20000 in
theorem ggX5_set_X5_saves : GoodIn wsX5_set wsX5_saves := goodIn_r _ [13, 14, 15, 16, 17, 18, 4, 19, 24, 25, 26, 27, 28, 29, 30, 31, 32, 33, 34, 35, 36, 37] (by decide +kernel) (by decide +kernel)
set_option maxRecDepth 20000 in
theorem gX5_set_X5_saves : GoodIn wsX5_set (wsV RX5 88 RX5 yX5_saves wsX5_saves) := goodIn_app (goodIn_of _ (by decide +kernel)) ggX5_set_X5_saves
set_option maxRecDepth 20000 in
theorem ggX5_set_X5_changes : GoodIn wsX5_set wsX5_changes := goodIn_r _ [23, 16, 24, 25, 26, 27, 28, 29, 30, 31, 32, 33, 34, 35, 36, 37] (by decide +kernel) (by decide +kernel)
set_option maxRecDepth 20000 in
theorem gX5_set_X5_changes : GoodIn wsX5_set (wsV RX5 91 RX5 yX5_changes wsX5_changes) := goodIn_app (goodIn_of _ (by decide +kernel)) ggX5_set_X5_changes
theorem dX5_set_0 : decode cX5_set 0 = .ok (.aload_n 0, 1) := by decide +kernel
theorem dX5_set_1 : decode cX5_set 1 = .ok (.iconst 0, 1) := by decide +kernel
theorem dX5_set_2 : decode cX5_set 2 = .ok (.putfield 28, 3) := by decide +kernel
theorem dX5_set_5 : decode cX5_set 5 = .ok (.iload_n 1, 1) := by decide +kernel
theorem dX5_set_6 : decode cX5_set 6 = .ok (.iconst 0, 1) := by decide +kernel
theorem dX5_set_7 : decode cX5_set 7 = .ok (.iconst 2, 1) := by decide +kernel
theorem dX5_set_8 : decode cX5_set 8 = .ok (.invokestatic 32, 3) := by decide +kernel
theorem dX5_set_11 : decode cX5_set 11 = .ok (.ifCond .ne 9, 3) := by decide +kernel
theorem dX5_set_14 : decode cX5_set 14 = .ok (.aload_n 0, 1) := by decide +kernel
theorem dX5_set_15 : decode cX5_set 15 = .ok (.iconst 1, 1) := by decide +kernel
theorem dX5_set_16 : decode cX5_set 16 = .ok (.invokevirtual 43, 3) := by decide +kernel
theorem dX5_set_19 : decode cX5_set 19 = .ok (.ireturn, 1) := by decide +kernel
theorem dX5_set_20 : decode cX5_set 20 = .ok (.iload_n 2, 1) := by decide +kernel
theorem dX5_set_21 : decode cX5_set 21 = .ok (.iconst 0, 1) := by decide +kernel
theorem dX5_set_22 : decode cX5_set 22 = .ok (.iload_n 1, 1) := by decide +kernel
theorem dX5_set_23 : decode cX5_set 23 = .ok (.ifCond .ne 9, 3) := by decide +kernel
theorem dX5_set_26 : decode cX5_set 26 = .ok (.sipush 200, 3) := by decide +kernel
theorem dX5_set_29 : decode cX5_set 29 = .ok (.goto 15, 3) := by decide +kernel
theorem dX5_set_32 : decode cX5_set 32 = .ok (.iload_n 1, 1) := by decide +kernel
theorem dX5_set_33 : decode cX5_set 33 = .ok (.iconst 1, 1) := by decide +kernel
theorem dX5_set_34 : decode cX5_set 34 = .ok (.if_icmp .ne 8, 3) := by decide +kernel
theorem dX5_set_37 : decode cX5_set 37 = .ok (.bipush 20, 2) := by decide +kernel
theorem dX5_set_39 : decode cX5_set 39 = .ok (.goto 5, 3) := by decide +kernel
theorem dX5_set_42 : decode cX5_set 42 = .ok (.bipush 50, 2) := by decide +kernel
theorem dX5_set_44 : decode cX5_set 44 = .ok (.invokestatic 32, 3) := by decide +kernel
theorem dX5_set_47 : decode cX5_set 47 = .ok (.ifCond .ne 9, 3) := by decide +kernel
theorem dX5_set_50 : decode cX5_set 50 = .ok (.aload_n 0, 1) := by decide +kernel
theorem dX5_set_51 : decode cX5_set 51 = .ok (.iconst 2, 1) := by decide +kernel
theorem dX5_set_52 : decode cX5_set 52 = .ok (.invokevirtual 43, 3) := by decide +kernel
theorem dX5_set_55 : decode cX5_set 55 = .ok (.ireturn, 1) := by decide +kernel
theorem dX5_set_56 : decode cX5_set 56 = .ok (.aload_n 0, 1) := by decide +kernel
theorem dX5_set_57 : decode cX5_set 57 = .ok (.invokevirtual 88, 3) := by decide +kernel
theorem dX5_set_60 : decode cX5_set 60 = .ok (.aload_n 0, 1) := by decide +kernel
theorem dX5_set_61 : decode cX5_set 61 = .ok (.iload_n 1, 1) := by decide +kernel
theorem dX5_set_62 : decode cX5_set 62 = .ok (.iload_n 2, 1) := by decide +kernel
theorem dX5_set_63 : decode cX5_set 63 = .ok (.invokevirtual 91, 3) := by decide +kernel
theorem dX5_set_66 : decode cX5_set 66 = .ok (.ireturn, 1) := by decide +kernel
set_option maxRecDepth 20000 in
theorem ggX5_step_X5_in : GoodIn wsX5_step wsX5_in := goodIn_r _ [6] (by decide +kernel) (by decide +kernel)
set_option maxRecDepth 20000 in
theorem gX5_step_X5_in : GoodIn wsX5_step (va_wsS RX5 32 yX5_in wsX5_in) := goodIn_app (goodIn_of _ (by decide +kernel)) ggX5_step_X5_in
set_option maxRecDepth 20000 in
theorem ggX5_step_X5_fails : GoodIn wsX5_step wsX5_fails := goodIn_r _ [10, 1, 56, 57, 58, 59, 60, 61, 62, 63, 64, 65, 66, 67, 68, 69] (by decide +kernel) (by decide +kernel)
set_option maxRecDepth 20000 in
theorem gX5_step_X5_fails : GoodIn wsX5_step (wsV RX5 43 RX5 yX5_fails wsX5_fails) := goodIn_app (goodIn_of _ (by decide +kernel)) ggX5_step_X5_fails
set_option maxRecDepth 20000 in
theorem ggX5_step_X5_saves : GoodIn wsX5_step wsX5_saves := goodIn_r _ [14, 15, 16, 2, 17, 18, 5, 19, 56, 57, 58, 59, 60, 61, 62, 63, 64, 65, 66, 67, 68, 69] (by decide +kernel) (by decide +kernel)
set_option maxRecDepth 20000 in
theorem gX5_step_X5_saves : GoodIn wsX5_step (wsV RX5 88 RX5 yX5_saves wsX5_saves) := goodIn_app (goodIn_of _ (by decide +kernel)) ggX5_step_X5_saves
set_option maxRecDepth 20000 in
theorem ggX5_step_X5_allTurn : GoodIn wsX5_step wsX5_allTurn := goodIn_r _ [23, 24, 25, 26, 27, 5, 28, 29, 30, 31, 32, 33, 34, 35, 36, 37, 38, 39, 40, 41, 42, 43, 44, 45, 3, 4, 6, 46, 47, 48, 49, 50, 51, 52, 53, 54, 55, 56, 57, 58, 59, 60, 61, 62, 63, 64, 65, 66, 67, 68, 69] (by decide +kernel) (by decide +kernel)
set_option maxRecDepth 20000 in
theorem gX5_step_X5_allTurn : GoodIn wsX5_step (wsV RX5 107 RX5 yX5_allTurn wsX5_allTurn) := goodIn_app (goodIn_of _ (by decide +kernel)) ggX5_step_X5_allTurn
theorem dX5_step_0 : decode cX5_step 0 = .ok (.aload_n 0, 1) := by decide +kernel
theorem dX5_step_1 : decode cX5_step 1 = .ok (.iconst 0, 1) := by decide +kernel
theorem dX5_step_2 : decode cX5_step 2 = .ok (.putfield 28, 3) := by decide +kernel
theorem dX5_step_5 : decode cX5_step 5 = .ok (.iload_n 1, 1) := by decide +kernel
theorem dX5_step_6 : decode cX5_step 6 = .ok (.iconst 1, 1) := by decide +kernel
theorem dX5_step_7 : decode cX5_step 7 = .ok (.bipush 50, 2) := by decide +kernel
theorem dX5_step_9 : decode cX5_step 9 = .ok (.invokestatic 32, 3) := by decide +kernel
theorem dX5_step_12 : decode cX5_step 12 = .ok (.ifCond .ne 9, 3) := by decide +kernel
theorem dX5_step_15 : decode cX5_step 15 = .ok (.aload_n 0, 1) := by decide +kernel
theorem dX5_step_16 : decode cX5_step 16 = .ok (.iconst 1, 1) := by decide +kernel
theorem dX5_step_17 : decode cX5_step 17 = .ok (.invokevirtual 43, 3) := by decide +kernel
theorem dX5_step_20 : decode cX5_step 20 = .ok (.ireturn, 1) := by decide +kernel
theorem dX5_step_21 : decode cX5_step 21 = .ok (.aload_n 0, 1) := by decide +kernel
theorem dX5_step_22 : decode cX5_step 22 = .ok (.invokevirtual 88, 3) := by decide +kernel
theorem dX5_step_25 : decode cX5_step 25 = .ok (.iconst 0, 1) := by decide +kernel
theorem dX5_step_26 : decode cX5_step 26 = .ok (.istore_n 2, 1) := by decide +kernel
theorem dX5_step_27 : decode cX5_step 27 = .ok (.iconst 0, 1) := by decide +kernel
theorem dX5_step_28 : decode cX5_step 28 = .ok (.istore_n 3, 1) := by decide +kernel
theorem dX5_step_29 : decode cX5_step 29 = .ok (.iload_n 3, 1) := by decide +kernel
theorem dX5_step_30 : decode cX5_step 30 = .ok (.iload_n 1, 1) := by decide +kernel
theorem dX5_step_31 : decode cX5_step 31 = .ok (.if_icmp .ge 20, 3) := by decide +kernel
theorem dX5_step_34 : decode cX5_step 34 = .ok (.iload_n 2, 1) := by decide +kernel
theorem dX5_step_35 : decode cX5_step 35 = .ok (.aload_n 0, 1) := by decide +kernel
theorem dX5_step_36 : decode cX5_step 36 = .ok (.aload_n 0, 1) := by decide +kernel
theorem dX5_step_37 : decode cX5_step 37 = .ok (.getfield 7, 3) := by decide +kernel
theorem dX5_step_40 : decode cX5_step 40 = .ok (.invokevirtual 107, 3) := by decide +kernel
theorem dX5_step_43 : decode cX5_step 43 = .ok (.iadd, 1) := by decide +kernel
theorem dX5_step_44 : decode cX5_step 44 = .ok (.istore_n 2, 1) := by decide +kernel
theorem dX5_step_45 : decode cX5_step 45 = .ok (.iinc 3 1, 3) := by decide +kernel
theorem dX5_step_48 : decode cX5_step 48 = .ok (.goto (-19), 3) := by decide +kernel
theorem dX5_step_51 : decode cX5_step 51 = .ok (.aload_n 0, 1) := by decide +kernel
theorem dX5_step_52 : decode cX5_step 52 = .ok (.getfield 7, 3) := by decide +kernel
theorem dX5_step_55 : decode cX5_step 55 = .ok (.iconst 3, 1) := by decide +kernel
theorem dX5_step_56 : decode cX5_step 56 = .ok (.dup2, 1) := by decide +kernel
theorem dX5_step_57 : decode cX5_step 57 = .ok (.iaload, 1) := by decide +kernel
theorem dX5_step_58 : decode cX5_step 58 = .ok (.iload_n 1, 1) := by decide +kernel
theorem dX5_step_59 : decode cX5_step 59 = .ok (.iadd, 1) := by decide +kernel
theorem dX5_step_60 : decode cX5_step 60 = .ok (.iastore, 1) := by decide +kernel
theorem dX5_step_61 : decode cX5_step 61 = .ok (.iload_n 2, 1) := by decide +kernel
theorem dX5_step_62 : decode cX5_step 62 = .ok (.ireturn, 1) := by decide +kernel
set_option maxRecDepth 20000 in
theorem ggX5_append_X5_in : GoodIn wsX5_append wsX5_in := goodIn_r _ [7] (by decide +kernel) (by decide +kernel)
set_option maxRecDepth 20000 in
theorem gX5_append_X5_in : GoodIn wsX5_append (va_wsS RX5 32 yX5_in wsX5_in) := goodIn_app (goodIn_of _ (by decide +kernel)) ggX5_append_X5_in
set_option maxRecDepth 20000 in
theorem ggX5_append_X5_fails : GoodIn wsX5_append wsX5_fails := goodIn_r _ [11, 1, 12, 13, 14, 15, 16, 17, 18, 19, 20, 21, 22, 23, 24, 25] (by decide +kernel) (by decide +kernel)
set_option maxRecDepth 20000 in
theorem gX5_append_X5_fails : GoodIn wsX5_append (wsV RX5 43 RX5 yX5_fails wsX5_fails) := goodIn_app (goodIn_of _ (by decide +kernel)) ggX5_append_X5_fails
theorem dX5_append_0 : decode cX5_append 0 = .ok (.aload_n 0, 1) := by decide +kernel
theorem dX5_append_1 : decode cX5_append 1 = .ok (.iconst 0, 1) := by decide +kernel
theorem dX5_append_2 : decode cX5_append 2 = .ok (.putfield 28, 3) := by decide +kernel
theorem dX5_append_5 : decode cX5_append 5 = .ok (.iload_n 1, 1) := by decide +kernel
theorem dX5_append_6 : decode cX5_append 6 = .ok (.bipush 33, 2) := by decide +kernel
theorem dX5_append_8 : decode cX5_append 8 = .ok (.bipush 126, 2) := by decide +kernel
theorem dX5_append_10 : decode cX5_append 10 = .ok (.invokestatic 32, 3) := by decide +kernel
theorem dX5_append_13 : decode cX5_append 13 = .ok (.ifCond .ne 9, 3) := by decide +kernel
theorem dX5_append_16 : decode cX5_append 16 = .ok (.aload_n 0, 1) := by decide +kernel
theorem dX5_append_17 : decode cX5_append 17 = .ok (.iconst 1, 1) := by decide +kernel
theorem dX5_append_18 : decode cX5_append 18 = .ok (.invokevirtual 43, 3) := by decide +kernel
theorem dX5_append_21 : decode cX5_append 21 = .ok (.ireturn, 1) := by decide +kernel
theorem dX5_append_22 : decode cX5_append 22 = .ok (.aload_n 0, 1) := by decide +kernel
theorem dX5_append_23 : decode cX5_append 23 = .ok (.getfield 110, 3) := by decide +kernel
theorem dX5_append_26 : decode cX5_append 26 = .ok (.bipush 60, 2) := by decide +kernel
theorem dX5_append_28 : decode cX5_append 28 = .ok (.if_icmp .ne 9, 3) := by decide +kernel
theorem dX5_append_31 : decode cX5_append 31 = .ok (.aload_n 0, 1) := by decide +kernel
theorem dX5_append_32 : decode cX5_append 32 = .ok (.iconst 2, 1) := by decide +kernel
theorem dX5_append_33 : decode cX5_append 33 = .ok (.invokevirtual 43, 3) := by decide +kernel
theorem dX5_append_36 : decode cX5_append 36 = .ok (.ireturn, 1) := by decide +kernel
theorem dX5_append_37 : decode cX5_append 37 = .ok (.aload_n 0, 1) := by decide +kernel
theorem dX5_append_38 : decode cX5_append 38 = .ok (.getfield 19, 3) := by decide +kernel
theorem dX5_append_41 : decode cX5_append 41 = .ok (.aload_n 0, 1) := by decide +kernel
theorem dX5_append_42 : decode cX5_append 42 = .ok (.getfield 110, 3) := by decide +kernel
theorem dX5_append_45 : decode cX5_append 45 = .ok (.iload_n 1, 1) := by decide +kernel
theorem dX5_append_46 : decode cX5_append 46 = .ok (.iastore, 1) := by decide +kernel
theorem dX5_append_47 : decode cX5_append 47 = .ok (.aload_n 0, 1) := by decide +kernel
theorem dX5_append_48 : decode cX5_append 48 = .ok (.dup, 1) := by decide +kernel
theorem dX5_append_49 : decode cX5_append 49 = .ok (.getfield 110, 3) := by decide +kernel
theorem dX5_append_52 : decode cX5_append 52 = .ok (.iconst 1, 1) := by decide +kernel
theorem dX5_append_53 : decode cX5_append 53 = .ok (.iadd, 1) := by decide +kernel
theorem dX5_append_54 : decode cX5_append 54 = .ok (.putfield 110, 3) := by decide +kernel
theorem dX5_append_57 : decode cX5_append 57 = .ok (.aload_n 0, 1) := by decide +kernel
theorem dX5_append_58 : decode cX5_append 58 = .ok (.getfield 110, 3) := by decide +kernel
theorem dX5_append_61 : decode cX5_append 61 = .ok (.ireturn, 1) := by decide +kernel
theorem dX5_clearBuffer_0 : decode cX5_clearBuffer 0 = .ok (.aload_n 0, 1) := by decide +kernel
theorem dX5_clearBuffer_1 : decode cX5_clearBuffer 1 = .ok (.iconst 0, 1) := by decide +kernel
theorem dX5_clearBuffer_2 : decode cX5_clearBuffer 2 = .ok (.putfield 28, 3) := by decide +kernel
theorem dX5_clearBuffer_5 : decode cX5_clearBuffer 5 = .ok (.aload_n 0, 1) := by decide +kernel
theorem dX5_clearBuffer_6 : decode cX5_clearBuffer 6 = .ok (.getfield 110, 3) := by decide +kernel
theorem dX5_clearBuffer_9 : decode cX5_clearBuffer 9 = .ok (.istore_n 1, 1) := by decide +kernel
theorem dX5_clearBuffer_10 : decode cX5_clearBuffer 10 = .ok (.aload_n 0, 1) := by decide +kernel
theorem dX5_clearBuffer_11 : decode cX5_clearBuffer 11 = .ok (.iconst 0, 1) := by decide +kernel
theorem dX5_clearBuffer_12 : decode cX5_clearBuffer 12 = .ok (.putfield 110, 3) := by decide +kernel
theorem dX5_clearBuffer_15 : decode cX5_clearBuffer 15 = .ok (.iload_n 1, 1) := by decide +kernel
theorem dX5_clearBuffer_16 : decode cX5_clearBuffer 16 = .ok (.ireturn, 1) := by decide +kernel
set_option maxRecDepth 20000 in
theorem ggX5_isAt_X5_in : GoodIn wsX5_isAt wsX5_in := goodIn_r _ [7] (by decide +kernel) (by decide +kernel)
set_option maxRecDepth 20000 in
theorem gX5_isAt_X5_in : GoodIn wsX5_isAt (va_wsS RX5 32 yX5_in wsX5_in) := goodIn_app (goodIn_of _ (by decide +kernel)) ggX5_isAt_X5_in
theorem dX5_isAt_0 : decode cX5_isAt 0 = .ok (.aload_n 0, 1) := by decide +kernel
theorem dX5_isAt_1 : decode cX5_isAt 1 = .ok (.getfield 113, 3) := by decide +kernel
theorem dX5_isAt_4 : decode cX5_isAt 4 = .ok (.aload_n 0, 1) := by decide +kernel
theorem dX5_isAt_5 : decode cX5_isAt 5 = .ok (.getfield 110, 3) := by decide +kernel
theorem dX5_isAt_8 : decode cX5_isAt 8 = .ok (.if_icmp .ge 24, 3) := by decide +kernel
theorem dX5_isAt_11 : decode cX5_isAt 11 = .ok (.aload_n 0, 1) := by decide +kernel
theorem dX5_isAt_12 : decode cX5_isAt 12 = .ok (.getfield 19, 3) := by decide +kernel
theorem dX5_isAt_15 : decode cX5_isAt 15 = .ok (.aload_n 0, 1) := by decide +kernel
theorem dX5_isAt_16 : decode cX5_isAt 16 = .ok (.getfield 113, 3) := by decide +kernel
theorem dX5_isAt_19 : decode cX5_isAt 19 = .ok (.iaload, 1) := by decide +kernel
theorem dX5_isAt_20 : decode cX5_isAt 20 = .ok (.iload_n 1, 1) := by decide +kernel
theorem dX5_isAt_21 : decode cX5_isAt 21 = .ok (.iload_n 2, 1) := by decide +kernel
theorem dX5_isAt_22 : decode cX5_isAt 22 = .ok (.invokestatic 32, 3) := by decide +kernel
theorem dX5_isAt_25 : decode cX5_isAt 25 = .ok (.ifCond .eq 7, 3) := by decide +kernel
theorem dX5_isAt_28 : decode cX5_isAt 28 = .ok (.iconst 1, 1) := by decide +kernel
theorem dX5_isAt_29 : decode cX5_isAt 29 = .ok (.goto 4, 3) := by decide +kernel
theorem dX5_isAt_32 : decode cX5_isAt 32 = .ok (.iconst 0, 1) := by decide +kernel
theorem dX5_isAt_33 : decode cX5_isAt 33 = .ok (.ireturn, 1) := by decide +kernel
theorem dX5_stops_0 : decode cX5_stops 0 = .ok (.aload_n 0, 1) := by decide +kernel
theorem dX5_stops_1 : decode cX5_stops 1 = .ok (.aload_n 0, 1) := by decide +kernel
theorem dX5_stops_2 : decode cX5_stops 2 = .ok (.getfield 113, 3) := by decide +kernel
theorem dX5_stops_5 : decode cX5_stops 5 = .ok (.aload_n 0, 1) := by decide +kernel
theorem dX5_stops_6 : decode cX5_stops 6 = .ok (.getfield 110, 3) := by decide +kernel
theorem dX5_stops_9 : decode cX5_stops 9 = .ok (.if_icmp .ge 7, 3) := by decide +kernel
theorem dX5_stops_12 : decode cX5_stops 12 = .ok (.iconst 1, 1) := by decide +kernel
theorem dX5_stops_13 : decode cX5_stops 13 = .ok (.goto 4, 3) := by decide +kernel
theorem dX5_stops_16 : decode cX5_stops 16 = .ok (.iconst 0, 1) := by decide +kernel
theorem dX5_stops_17 : decode cX5_stops 17 = .ok (.putfield 116, 3) := by decide +kernel
theorem dX5_stops_20 : decode cX5_stops 20 = .ok (.iconst 0, 1) := by decide +kernel
theorem dX5_stops_21 : decode cX5_stops 21 = .ok (.ireturn, 1) := by decide +kernel
set_option maxRecDepth 20000 in
theorem ggX5_isPart_X5_isAt : GoodIn wsX5_isPart wsX5_isAt := goodIn_r _ [9, 2, 10, 1, 11, 12, 8, 13, 19, 20, 21, 22, 23, 24, 25, 26, 27, 28, 29, 30, 31, 32] (by decide +kernel) (by decide +kernel)
set_option maxRecDepth 20000 in
theorem gX5_isPart_X5_isAt : GoodIn wsX5_isPart (wsV RX5 120 RX5 yX5_isAt wsX5_isAt) := goodIn_app (goodIn_of _ (by decide +kernel)) ggX5_isPart_X5_isAt
set_option maxRecDepth 20000 in
theorem ggX5_isPart_X5_stops : GoodIn wsX5_isPart wsX5_stops := goodIn_r _ [17, 2, 10, 18, 19, 20, 21, 22, 23, 24, 25, 26, 27, 28, 29, 30, 31, 32] (by decide +kernel) (by decide +kernel)
set_option maxRecDepth 20000 in
theorem gX5_isPart_X5_stops : GoodIn wsX5_isPart (wsV RX5 123 RX5 yX5_stops wsX5_stops) := goodIn_app (goodIn_of _ (by decide +kernel)) ggX5_isPart_X5_stops
theorem dX5_isPart_0 : decode cX5_isPart 0 = .ok (.iconst 0, 1) := by decide +kernel
theorem dX5_isPart_1 : decode cX5_isPart 1 = .ok (.istore_n 1, 1) := by decide +kernel
theorem dX5_isPart_2 : decode cX5_isPart 2 = .ok (.iconst 0, 1) := by decide +kernel
theorem dX5_isPart_3 : decode cX5_isPart 3 = .ok (.istore_n 2, 1) := by decide +kernel
theorem dX5_isPart_4 : decode cX5_isPart 4 = .ok (.iload_n 2, 1) := by decide +kernel
theorem dX5_isPart_5 : decode cX5_isPart 5 = .ok (.iconst 2, 1) := by decide +kernel
theorem dX5_isPart_6 : decode cX5_isPart 6 = .ok (.if_icmp .ge 61, 3) := by decide +kernel
theorem dX5_isPart_9 : decode cX5_isPart 9 = .ok (.aload_n 0, 1) := by decide +kernel
theorem dX5_isPart_10 : decode cX5_isPart 10 = .ok (.bipush 48, 2) := by decide +kernel
theorem dX5_isPart_12 : decode cX5_isPart 12 = .ok (.bipush 53, 2) := by decide +kernel
theorem dX5_isPart_14 : decode cX5_isPart 14 = .ok (.invokevirtual 120, 3) := by decide +kernel
theorem dX5_isPart_17 : decode cX5_isPart 17 = .ok (.ifCond .ne 8, 3) := by decide +kernel
theorem dX5_isPart_20 : decode cX5_isPart 20 = .ok (.aload_n 0, 1) := by decide +kernel
theorem dX5_isPart_21 : decode cX5_isPart 21 = .ok (.invokevirtual 123, 3) := by decide +kernel
theorem dX5_isPart_24 : decode cX5_isPart 24 = .ok (.ireturn, 1) := by decide +kernel
theorem dX5_isPart_25 : decode cX5_isPart 25 = .ok (.iload_n 1, 1) := by decide +kernel
theorem dX5_isPart_26 : decode cX5_isPart 26 = .ok (.iload_n 2, 1) := by decide +kernel
theorem dX5_isPart_27 : decode cX5_isPart 27 = .ok (.ifCond .ne 7, 3) := by decide +kernel
theorem dX5_isPart_30 : decode cX5_isPart 30 = .ok (.iconst 1, 1) := by decide +kernel
theorem dX5_isPart_31 : decode cX5_isPart 31 = .ok (.goto 5, 3) := by decide +kernel
theorem dX5_isPart_34 : decode cX5_isPart 34 = .ok (.bipush 6, 2) := by decide +kernel
theorem dX5_isPart_36 : decode cX5_isPart 36 = .ok (.aload_n 0, 1) := by decide +kernel
theorem dX5_isPart_37 : decode cX5_isPart 37 = .ok (.getfield 19, 3) := by decide +kernel
theorem dX5_isPart_40 : decode cX5_isPart 40 = .ok (.aload_n 0, 1) := by decide +kernel
theorem dX5_isPart_41 : decode cX5_isPart 41 = .ok (.getfield 113, 3) := by decide +kernel
theorem dX5_isPart_44 : decode cX5_isPart 44 = .ok (.iaload, 1) := by decide +kernel
theorem dX5_isPart_45 : decode cX5_isPart 45 = .ok (.bipush 48, 2) := by decide +kernel
theorem dX5_isPart_47 : decode cX5_isPart 47 = .ok (.isub, 1) := by decide +kernel
theorem dX5_isPart_48 : decode cX5_isPart 48 = .ok (.imul, 1) := by decide +kernel
theorem dX5_isPart_49 : decode cX5_isPart 49 = .ok (.iadd, 1) := by decide +kernel
theorem dX5_isPart_50 : decode cX5_isPart 50 = .ok (.istore_n 1, 1) := by decide +kernel
theorem dX5_isPart_51 : decode cX5_isPart 51 = .ok (.aload_n 0, 1) := by decide +kernel
theorem dX5_isPart_52 : decode cX5_isPart 52 = .ok (.dup, 1) := by decide +kernel
theorem dX5_isPart_53 : decode cX5_isPart 53 = .ok (.getfield 113, 3) := by decide +kernel
theorem dX5_isPart_56 : decode cX5_isPart 56 = .ok (.iconst 1, 1) := by decide +kernel
theorem dX5_isPart_57 : decode cX5_isPart 57 = .ok (.iadd, 1) := by decide +kernel
theorem dX5_isPart_58 : decode cX5_isPart 58 = .ok (.putfield 113, 3) := by decide +kernel
theorem dX5_isPart_61 : decode cX5_isPart 61 = .ok (.iinc 2 1, 3) := by decide +kernel
theorem dX5_isPart_64 : decode cX5_isPart 64 = .ok (.goto (-60), 3) := by decide +kernel
theorem dX5_isPart_67 : decode cX5_isPart 67 = .ok (.aload_n 0, 1) := by decide +kernel
theorem dX5_isPart_68 : decode cX5_isPart 68 = .ok (.bipush 97, 2) := by decide +kernel
theorem dX5_isPart_70 : decode cX5_isPart 70 = .ok (.bipush 104, 2) := by decide +kernel
theorem dX5_isPart_72 : decode cX5_isPart 72 = .ok (.invokevirtual 120, 3) := by decide +kernel
theorem dX5_isPart_75 : decode cX5_isPart 75 = .ok (.ifCond .ne 8, 3) := by decide +kernel
theorem dX5_isPart_78 : decode cX5_isPart 78 = .ok (.aload_n 0, 1) := by decide +kernel
theorem dX5_isPart_79 : decode cX5_isPart 79 = .ok (.invokevirtual 123, 3) := by decide +kernel
theorem dX5_isPart_82 : decode cX5_isPart 82 = .ok (.ireturn, 1) := by decide +kernel
theorem dX5_isPart_83 : decode cX5_isPart 83 = .ok (.aload_n 0, 1) := by decide +kernel
theorem dX5_isPart_84 : decode cX5_isPart 84 = .ok (.getfield 19, 3) := by decide +kernel
theorem dX5_isPart_87 : decode cX5_isPart 87 = .ok (.aload_n 0, 1) := by decide +kernel
theorem dX5_isPart_88 : decode cX5_isPart 88 = .ok (.getfield 113, 3) := by decide +kernel
theorem dX5_isPart_91 : decode cX5_isPart 91 = .ok (.iaload, 1) := by decide +kernel
theorem dX5_isPart_92 : decode cX5_isPart 92 = .ok (.bipush 97, 2) := by decide +kernel
theorem dX5_isPart_94 : decode cX5_isPart 94 = .ok (.isub, 1) := by decide +kernel
theorem dX5_isPart_95 : decode cX5_isPart 95 = .ok (.istore_n 2, 1) := by decide +kernel
theorem dX5_isPart_96 : decode cX5_isPart 96 = .ok (.aload_n 0, 1) := by decide +kernel
theorem dX5_isPart_97 : decode cX5_isPart 97 = .ok (.dup, 1) := by decide +kernel
theorem dX5_isPart_98 : decode cX5_isPart 98 = .ok (.getfield 113, 3) := by decide +kernel
theorem dX5_isPart_101 : decode cX5_isPart 101 = .ok (.iconst 1, 1) := by decide +kernel
theorem dX5_isPart_102 : decode cX5_isPart 102 = .ok (.iadd, 1) := by decide +kernel
theorem dX5_isPart_103 : decode cX5_isPart 103 = .ok (.putfield 113, 3) := by decide +kernel
