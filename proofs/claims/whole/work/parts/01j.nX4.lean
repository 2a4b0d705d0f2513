theorem dX4_bars_31 : decode cX4_bars 31 = .ok (.aload_n 0, 1) := by decide +kernel
theorem dX4_bars_32 : decode cX4_bars 32 = .ok (.getfield 12, 3) := by decide +kernel
theorem dX4_bars_35 : decode cX4_bars 35 = .ok (.invokevirtual 132, 3) := by decide +kernel
theorem dX4_bars_38 : decode cX4_bars 38 = .ok (.aload_n 0, 1) := by decide +kernel
theorem dX4_bars_39 : decode cX4_bars 39 = .ok (.getfield 29, 3) := by decide +kernel
theorem dX4_bars_42 : decode cX4_bars 42 = .ok (.aload_n 0, 1) := by decide +kernel
theorem dX4_bars_43 : decode cX4_bars 43 = .ok (.getfield 12, 3) := by decide +kernel
theorem dX4_bars_46 : decode cX4_bars 46 = .ok (.invokevirtual 135, 3) := by decide +kernel
theorem dX4_bars_49 : decode cX4_bars 49 = .ok (.aload_n 0, 1) := by decide +kernel
theorem dX4_bars_50 : decode cX4_bars 50 = .ok (.getfield 12, 3) := by decide +kernel
theorem dX4_bars_53 : decode cX4_bars 53 = .ok (.invokevirtual 84, 3) := by decide +kernel
theorem dX4_bars_56 : decode cX4_bars 56 = .ok (.aload_n 0, 1) := by decide +kernel
theorem dX4_bars_57 : decode cX4_bars 57 = .ok (.getfield 29, 3) := by decide +kernel
theorem dX4_bars_60 : decode cX4_bars 60 = .ok (.iconst 0, 1) := by decide +kernel
theorem dX4_bars_61 : decode cX4_bars 61 = .ok (.putfield 112, 3) := by decide +kernel
theorem dX4_bars_64 : decode cX4_bars 64 = .ok (.aload_n 0, 1) := by decide +kernel
theorem dX4_bars_65 : decode cX4_bars 65 = .ok (.getfield 12, 3) := by decide +kernel
theorem dX4_bars_68 : decode cX4_bars 68 = .ok (.invokevirtual 70, 3) := by decide +kernel
theorem dX4_bars_71 : decode cX4_bars 71 = .ok (.ireturn, 1) := by decide +kernel
set_option maxRecDepth 20000 in
theorem ggX4_undo_X3_restoreInto : GoodIn wsX4_undo wsX3_restoreInto := goodIn_r _ [9, 10, 11, 12, 13, 14, 15, 16, 17, 18, 19, 20, 21, 22, 23, 24, 25, 26, 27, 28, 29, 30, 35, 36, 37, 38, 39, 40, 41, 42, 43, 44, 45, 46, 47, 48, 49, 50] (by decide +kernel) (by decide +kernel)
set_option maxRecDepth 20000 in
theorem gX4_undo_X3_restoreInto : GoodIn wsX4_undo (wsV RX4 143 RX3 yX3_restoreInto wsX3_restoreInto) := goodIn_app (goodIn_of _ (by decide +kernel)) ggX4_undo_X3_restoreInto
theorem dX4_undo_0 : decode cX4_undo 0 = .ok (.aload_n 0, 1) := by decide +kernel
theorem dX4_undo_1 : decode cX4_undo 1 = .ok (.getfield 22, 3) := by decide +kernel
theorem dX4_undo_4 : decode cX4_undo 4 = .ok (.getfield 138, 3) := by decide +kernel
theorem dX4_undo_7 : decode cX4_undo 7 = .ok (.ifCond .ne 13, 3) := by decide +kernel
theorem dX4_undo_10 : decode cX4_undo 10 = .ok (.new 74, 3) := by decide +kernel
theorem dX4_undo_13 : decode cX4_undo 13 = .ok (.dup, 1) := by decide +kernel
theorem dX4_undo_14 : decode cX4_undo 14 = .ok (.ldc 141, 2) := by decide +kernel
theorem dX4_undo_16 : decode cX4_undo 16 = .ok (.invokespecial 78, 3) := by decide +kernel
theorem dX4_undo_19 : decode cX4_undo 19 = .ok (.athrow, 1) := by decide +kernel
theorem dX4_undo_20 : decode cX4_undo 20 = .ok (.aload_n 0, 1) := by decide +kernel
theorem dX4_undo_21 : decode cX4_undo 21 = .ok (.getfield 22, 3) := by decide +kernel
theorem dX4_undo_24 : decode cX4_undo 24 = .ok (.aload_n 0, 1) := by decide +kernel
theorem dX4_undo_25 : decode cX4_undo 25 = .ok (.getfield 12, 3) := by decide +kernel
theorem dX4_undo_28 : decode cX4_undo 28 = .ok (.invokevirtual 143, 3) := by decide +kernel
theorem dX4_undo_31 : decode cX4_undo 31 = .ok (.aload_n 0, 1) := by decide +kernel
theorem dX4_undo_32 : decode cX4_undo 32 = .ok (.getfield 22, 3) := by decide +kernel
theorem dX4_undo_35 : decode cX4_undo 35 = .ok (.getfield 138, 3) := by decide +kernel
theorem dX4_undo_38 : decode cX4_undo 38 = .ok (.ireturn, 1) := by decide +kernel
set_option maxRecDepth 20000 in
theorem ggX4_cell_X4_requireCell : GoodIn wsX4_cell wsX4_requireCell := goodIn_ca (goodIn_r _ [8, 9, 10] (by decide +kernel) (by decide +kernel)) (goodIn_sub (fun _ h => List.mem_cons_of_mem _ (List.mem_append_right _ h)) (by decide +kernel))
set_option maxRecDepth 20000 in
theorem gX4_cell_X4_requireCell : GoodIn wsX4_cell (va_wsS RX4 33 yX4_requireCell wsX4_requireCell) := goodIn_app (goodIn_of _ (by decide +kernel)) ggX4_cell_X4_requireCell
set_option maxRecDepth 20000 in
theorem ggX4_cell_X2_aim : GoodIn wsX4_cell wsX2_aim := goodIn_r _ [15, 16, 17, 18, 7, 19, 42, 43, 44, 45, 46, 47, 48, 49, 50, 51, 52, 53, 54] (by decide +kernel) (by decide +kernel)
set_option maxRecDepth 20000 in
theorem gX4_cell_X2_aim : GoodIn wsX4_cell (wsV RX4 153 RX2 yX2_aim wsX2_aim) := goodIn_app (goodIn_of _ (by decide +kernel)) ggX4_cell_X2_aim
set_option maxRecDepth 20000 in
theorem ggX4_cell_X2_wouldTurn : GoodIn wsX4_cell wsX2_wouldTurn := goodIn_r _ [23, 24, 25, 26, 27, 14, 28, 29, 16, 17, 30, 18, 7, 19, 31, 32, 42, 43, 44, 45, 46, 47, 48, 49, 50, 51, 52, 53, 54] (by decide +kernel) (by decide +kernel)
set_option maxRecDepth 20000 in
theorem gX4_cell_X2_wouldTurn : GoodIn wsX4_cell (wsV RX4 156 RX2 yX2_wouldTurn wsX2_wouldTurn) := goodIn_app (goodIn_of _ (by decide +kernel)) ggX4_cell_X2_wouldTurn
set_option maxRecDepth 20000 in
theorem ggX4_cell_X2_awayFromAim : GoodIn wsX4_cell wsX2_awayFromAim := goodIn_r _ [36, 24, 37, 12, 13, 14, 15, 16, 17, 18, 7, 19, 31, 32, 42, 43, 44, 45, 46, 47, 48, 49, 50, 51, 52, 53, 54] (by decide +kernel) (by decide +kernel)
set_option maxRecDepth 20000 in
theorem gX4_cell_X2_awayFromAim : GoodIn wsX4_cell (wsV RX4 159 RX2 yX2_awayFromAim wsX2_awayFromAim) := goodIn_app (goodIn_of _ (by decide +kernel)) ggX4_cell_X2_awayFromAim
theorem dX4_cell_0 : decode cX4_cell 0 = .ok (.iload_n 1, 1) := by decide +kernel
theorem dX4_cell_1 : decode cX4_cell 1 = .ok (.invokestatic 33, 3) := by decide +kernel
theorem dX4_cell_4 : decode cX4_cell 4 = .ok (.iload_n 2, 1) := by decide +kernel
theorem dX4_cell_5 : decode cX4_cell 5 = .ok (.tableswitch 146 0 7 #[47, 57, 67, 85, 98, 111, 120, 137], 47) := by decide +kernel
theorem dX4_cell_52 : decode cX4_cell 52 = .ok (.aload_n 0, 1) := by decide +kernel
theorem dX4_cell_53 : decode cX4_cell 53 = .ok (.getfield 12, 3) := by decide +kernel
theorem dX4_cell_56 : decode cX4_cell 56 = .ok (.getfield 44, 3) := by decide +kernel
theorem dX4_cell_59 : decode cX4_cell 59 = .ok (.iload_n 1, 1) := by decide +kernel
theorem dX4_cell_60 : decode cX4_cell 60 = .ok (.iaload, 1) := by decide +kernel
theorem dX4_cell_61 : decode cX4_cell 61 = .ok (.ireturn, 1) := by decide +kernel
theorem dX4_cell_62 : decode cX4_cell 62 = .ok (.aload_n 0, 1) := by decide +kernel
theorem dX4_cell_63 : decode cX4_cell 63 = .ok (.getfield 12, 3) := by decide +kernel
theorem dX4_cell_66 : decode cX4_cell 66 = .ok (.getfield 55, 3) := by decide +kernel
theorem dX4_cell_69 : decode cX4_cell 69 = .ok (.iload_n 1, 1) := by decide +kernel
theorem dX4_cell_70 : decode cX4_cell 70 = .ok (.iaload, 1) := by decide +kernel
theorem dX4_cell_71 : decode cX4_cell 71 = .ok (.ireturn, 1) := by decide +kernel
theorem dX4_cell_72 : decode cX4_cell 72 = .ok (.aload_n 0, 1) := by decide +kernel
theorem dX4_cell_73 : decode cX4_cell 73 = .ok (.getfield 12, 3) := by decide +kernel
theorem dX4_cell_76 : decode cX4_cell 76 = .ok (.getfield 58, 3) := by decide +kernel
theorem dX4_cell_79 : decode cX4_cell 79 = .ok (.iload_n 1, 1) := by decide +kernel
theorem dX4_cell_80 : decode cX4_cell 80 = .ok (.baload, 1) := by decide +kernel
theorem dX4_cell_81 : decode cX4_cell 81 = .ok (.ifCond .eq 7, 3) := by decide +kernel
theorem dX4_cell_84 : decode cX4_cell 84 = .ok (.iconst 1, 1) := by decide +kernel
theorem dX4_cell_85 : decode cX4_cell 85 = .ok (.goto 4, 3) := by decide +kernel
theorem dX4_cell_88 : decode cX4_cell 88 = .ok (.iconst 0, 1) := by decide +kernel
theorem dX4_cell_89 : decode cX4_cell 89 = .ok (.ireturn, 1) := by decide +kernel
theorem dX4_cell_90 : decode cX4_cell 90 = .ok (.aload_n 0, 1) := by decide +kernel
theorem dX4_cell_91 : decode cX4_cell 91 = .ok (.getfield 12, 3) := by decide +kernel
theorem dX4_cell_94 : decode cX4_cell 94 = .ok (.getfield 146, 3) := by decide +kernel
theorem dX4_cell_97 : decode cX4_cell 97 = .ok (.iload_n 1, 1) := by decide +kernel
theorem dX4_cell_98 : decode cX4_cell 98 = .ok (.iaload, 1) := by decide +kernel
theorem dX4_cell_99 : decode cX4_cell 99 = .ok (.ldc 149, 2) := by decide +kernel
theorem dX4_cell_101 : decode cX4_cell 101 = .ok (.iadd, 1) := by decide +kernel
theorem dX4_cell_102 : decode cX4_cell 102 = .ok (.ireturn, 1) := by decide +kernel
theorem dX4_cell_103 : decode cX4_cell 103 = .ok (.aload_n 0, 1) := by decide +kernel
theorem dX4_cell_104 : decode cX4_cell 104 = .ok (.getfield 12, 3) := by decide +kernel
theorem dX4_cell_107 : decode cX4_cell 107 = .ok (.getfield 150, 3) := by decide +kernel
theorem dX4_cell_110 : decode cX4_cell 110 = .ok (.iload_n 1, 1) := by decide +kernel
theorem dX4_cell_111 : decode cX4_cell 111 = .ok (.iaload, 1) := by decide +kernel
theorem dX4_cell_112 : decode cX4_cell 112 = .ok (.ldc 149, 2) := by decide +kernel
theorem dX4_cell_114 : decode cX4_cell 114 = .ok (.iadd, 1) := by decide +kernel
theorem dX4_cell_115 : decode cX4_cell 115 = .ok (.ireturn, 1) := by decide +kernel
theorem dX4_cell_116 : decode cX4_cell 116 = .ok (.aload_n 0, 1) := by decide +kernel
theorem dX4_cell_117 : decode cX4_cell 117 = .ok (.getfield 12, 3) := by decide +kernel
theorem dX4_cell_120 : decode cX4_cell 120 = .ok (.iload_n 1, 1) := by decide +kernel
theorem dX4_cell_121 : decode cX4_cell 121 = .ok (.invokevirtual 153, 3) := by decide +kernel
theorem dX4_cell_124 : decode cX4_cell 124 = .ok (.ireturn, 1) := by decide +kernel
theorem dX4_cell_125 : decode cX4_cell 125 = .ok (.aload_n 0, 1) := by decide +kernel
theorem dX4_cell_126 : decode cX4_cell 126 = .ok (.getfield 12, 3) := by decide +kernel
theorem dX4_cell_129 : decode cX4_cell 129 = .ok (.iload_n 1, 1) := by decide +kernel
theorem dX4_cell_130 : decode cX4_cell 130 = .ok (.invokevirtual 156, 3) := by decide +kernel
theorem dX4_cell_133 : decode cX4_cell 133 = .ok (.ifCond .eq 7, 3) := by decide +kernel
theorem dX4_cell_136 : decode cX4_cell 136 = .ok (.iconst 1, 1) := by decide +kernel
theorem dX4_cell_137 : decode cX4_cell 137 = .ok (.goto 4, 3) := by decide +kernel
theorem dX4_cell_140 : decode cX4_cell 140 = .ok (.iconst 0, 1) := by decide +kernel
theorem dX4_cell_141 : decode cX4_cell 141 = .ok (.ireturn, 1) := by decide +kernel
theorem dX4_cell_142 : decode cX4_cell 142 = .ok (.aload_n 0, 1) := by decide +kernel
theorem dX4_cell_143 : decode cX4_cell 143 = .ok (.getfield 12, 3) := by decide +kernel
theorem dX4_cell_146 : decode cX4_cell 146 = .ok (.iload_n 1, 1) := by decide +kernel
theorem dX4_cell_147 : decode cX4_cell 147 = .ok (.invokevirtual 159, 3) := by decide +kernel
theorem dX4_cell_150 : decode cX4_cell 150 = .ok (.ireturn, 1) := by decide +kernel
theorem dX4_cell_151 : decode cX4_cell 151 = .ok (.new 127, 3) := by decide +kernel
theorem dX4_cell_154 : decode cX4_cell 154 = .ok (.dup, 1) := by decide +kernel
theorem dX4_cell_155 : decode cX4_cell 155 = .ok (.ldc 162, 2) := by decide +kernel
theorem dX4_cell_157 : decode cX4_cell 157 = .ok (.invokespecial 131, 3) := by decide +kernel
theorem dX4_cell_160 : decode cX4_cell 160 = .ok (.athrow, 1) := by decide +kernel
set_option maxRecDepth 20000 in
theorem ggX4_barOf_X4_requireBetween : GoodIn wsX4_barOf wsX4_requireBetween := goodIn_ca (goodIn_r _ [7, 1, 2] (by decide +kernel) (by decide +kernel)) (goodIn_sub (fun _ h => List.mem_cons_of_mem _ (List.mem_append_right _ h)) (by decide +kernel))
set_option maxRecDepth 20000 in
theorem gX4_barOf_X4_requireBetween : GoodIn wsX4_barOf (va_wsS RX4 51 yX4_requireBetween wsX4_requireBetween) := goodIn_app (goodIn_of _ (by decide +kernel)) ggX4_barOf_X4_requireBetween
set_option maxRecDepth 20000 in
theorem ggX4_barOf_X2_cellOfBar : GoodIn wsX4_barOf wsX2_cellOfBar := goodIn_r _ [12, 13, 14, 15, 11, 16, 17, 22, 23, 24, 25, 26, 27, 28, 29, 30, 31, 32, 33, 34] (by decide +kernel) (by decide +kernel)
set_option maxRecDepth 20000 in
theorem gX4_barOf_X2_cellOfBar : GoodIn wsX4_barOf (wsV RX4 166 RX2 yX2_cellOfBar wsX2_cellOfBar) := goodIn_app (goodIn_of _ (by decide +kernel)) ggX4_barOf_X2_cellOfBar
theorem dX4_barOf_0 : decode cX4_barOf 0 = .ok (.iload_n 1, 1) := by decide +kernel
theorem dX4_barOf_1 : decode cX4_barOf 1 = .ok (.ifCond .ge 13, 3) := by decide +kernel
theorem dX4_barOf_4 : decode cX4_barOf 4 = .ok (.new 127, 3) := by decide +kernel
theorem dX4_barOf_7 : decode cX4_barOf 7 = .ok (.dup, 1) := by decide +kernel
theorem dX4_barOf_8 : decode cX4_barOf 8 = .ok (.ldc 164, 2) := by decide +kernel
theorem dX4_barOf_10 : decode cX4_barOf 10 = .ok (.invokespecial 131, 3) := by decide +kernel
theorem dX4_barOf_13 : decode cX4_barOf 13 = .ok (.athrow, 1) := by decide +kernel
theorem dX4_barOf_14 : decode cX4_barOf 14 = .ok (.iload_n 2, 1) := by decide +kernel
theorem dX4_barOf_15 : decode cX4_barOf 15 = .ok (.iconst 0, 1) := by decide +kernel
theorem dX4_barOf_16 : decode cX4_barOf 16 = .ok (.iconst 2, 1) := by decide +kernel
theorem dX4_barOf_17 : decode cX4_barOf 17 = .ok (.invokestatic 51, 3) := by decide +kernel
theorem dX4_barOf_20 : decode cX4_barOf 20 = .ok (.aload_n 0, 1) := by decide +kernel
theorem dX4_barOf_21 : decode cX4_barOf 21 = .ok (.getfield 12, 3) := by decide +kernel
theorem dX4_barOf_24 : decode cX4_barOf 24 = .ok (.iload_n 1, 1) := by decide +kernel
theorem dX4_barOf_25 : decode cX4_barOf 25 = .ok (.invokevirtual 166, 3) := by decide +kernel
theorem dX4_barOf_28 : decode cX4_barOf 28 = .ok (.istore_n 3, 1) := by decide +kernel
theorem dX4_barOf_29 : decode cX4_barOf 29 = .ok (.iload_n 3, 1) := by decide +kernel
theorem dX4_barOf_30 : decode cX4_barOf 30 = .ok (.iconst (-1), 1) := by decide +kernel
theorem dX4_barOf_31 : decode cX4_barOf 31 = .ok (.if_icmp .eq 7, 3) := by decide +kernel
theorem dX4_barOf_34 : decode cX4_barOf 34 = .ok (.iload_n 2, 1) := by decide +kernel
theorem dX4_barOf_35 : decode cX4_barOf 35 = .ok (.ifCond .ne 5, 3) := by decide +kernel
theorem dX4_barOf_38 : decode cX4_barOf 38 = .ok (.iload_n 3, 1) := by decide +kernel
theorem dX4_barOf_39 : decode cX4_barOf 39 = .ok (.ireturn, 1) := by decide +kernel
theorem dX4_barOf_40 : decode cX4_barOf 40 = .ok (.iload_n 2, 1) := by decide +kernel
theorem dX4_barOf_41 : decode cX4_barOf 41 = .ok (.iconst 1, 1) := by decide +kernel
theorem dX4_barOf_42 : decode cX4_barOf 42 = .ok (.if_icmp .ne 15, 3) := by decide +kernel
theorem dX4_barOf_45 : decode cX4_barOf 45 = .ok (.aload_n 0, 1) := by decide +kernel
theorem dX4_barOf_46 : decode cX4_barOf 46 = .ok (.getfield 12, 3) := by decide +kernel
theorem dX4_barOf_49 : decode cX4_barOf 49 = .ok (.getfield 169, 3) := by decide +kernel
theorem dX4_barOf_52 : decode cX4_barOf 52 = .ok (.iload_n 3, 1) := by decide +kernel
theorem dX4_barOf_53 : decode cX4_barOf 53 = .ok (.iaload, 1) := by decide +kernel
theorem dX4_barOf_54 : decode cX4_barOf 54 = .ok (.goto 12, 3) := by decide +kernel
theorem dX4_barOf_57 : decode cX4_barOf 57 = .ok (.aload_n 0, 1) := by decide +kernel
theorem dX4_barOf_58 : decode cX4_barOf 58 = .ok (.getfield 12, 3) := by decide +kernel
theorem dX4_barOf_61 : decode cX4_barOf 61 = .ok (.getfield 172, 3) := by decide +kernel
theorem dX4_barOf_64 : decode cX4_barOf 64 = .ok (.iload_n 3, 1) := by decide +kernel
theorem dX4_barOf_65 : decode cX4_barOf 65 = .ok (.iaload, 1) := by decide +kernel
theorem dX4_barOf_66 : decode cX4_barOf 66 = .ok (.ireturn, 1) := by decide +kernel
set_option maxRecDepth 20000 in
theorem ggX4_count_X2_barCount : GoodIn wsX4_count wsX2_barCount := goodIn_r _ [9, 10, 11, 12, 8, 13, 14, 61, 62, 63, 64, 65, 66, 67, 68, 69, 70, 71, 72, 73] (by decide +kernel) (by decide +kernel)
set_option maxRecDepth 20000 in
theorem gX4_count_X2_barCount : GoodIn wsX4_count (wsV RX4 70 RX2 yX2_barCount wsX2_barCount) := goodIn_app (goodIn_of _ (by decide +kernel)) ggX4_count_X2_barCount
set_option maxRecDepth 20000 in
theorem ggX4_count_X2_heldCount : GoodIn wsX4_count wsX2_heldCount := goodIn_r _ [18, 19, 61, 62, 63, 64, 65, 66, 67, 68, 69, 70, 71, 72, 73] (by decide +kernel) (by decide +kernel)
set_option maxRecDepth 20000 in
theorem gX4_count_X2_heldCount : GoodIn wsX4_count (wsV RX4 178 RX2 yX2_heldCount wsX2_heldCount) := goodIn_app (goodIn_of _ (by decide +kernel)) ggX4_count_X2_heldCount
set_option maxRecDepth 20000 in
theorem ggX4_count_X2_turningCount : GoodIn wsX4_count wsX2_turningCount := goodIn_r _ [23, 24, 25, 26, 8, 27, 28, 29, 30, 31, 32, 19, 33, 34, 35, 36, 37, 38, 39, 40, 61, 62, 63, 64, 65, 66, 67, 68, 69, 70, 71, 72, 73] (by decide +kernel) (by decide +kernel)
set_option maxRecDepth 20000 in
theorem gX4_count_X2_turningCount : GoodIn wsX4_count (wsV RX4 181 RX2 yX2_turningCount wsX2_turningCount) := goodIn_app (goodIn_of _ (by decide +kernel)) ggX4_count_X2_turningCount
set_option maxRecDepth 20000 in
theorem ggX4_count_X2_obeyingCount : GoodIn wsX4_count wsX2_obeyingCount := goodIn_r _ [44, 28, 45, 46, 47, 8, 48, 33, 34, 36, 37, 38, 61, 62, 63, 64, 65, 66, 67, 68, 69, 70, 71, 72, 73] (by decide +kernel) (by decide +kernel)
set_option maxRecDepth 20000 in
theorem gX4_count_X2_obeyingCount : GoodIn wsX4_count (wsV RX4 184 RX2 yX2_obeyingCount wsX2_obeyingCount) := goodIn_app (goodIn_of _ (by decide +kernel)) ggX4_count_X2_obeyingCount
set_option maxRecDepth 20000 in
theorem ggX4_count_X2_awayTogether : GoodIn wsX4_count wsX2_awayTogether := goodIn_r _ [52, 53, 54, 55, 8, 56, 28, 45, 46, 47, 48, 33, 34, 36, 37, 38, 39, 40, 61, 62, 63, 64, 65, 66, 67, 68, 69, 70, 71, 72, 73] (by decide +kernel) (by decide +kernel)
set_option maxRecDepth 20000 in
theorem gX4_count_X2_awayTogether : GoodIn wsX4_count (wsV RX4 187 RX2 yX2_awayTogether wsX2_awayTogether) := goodIn_app (goodIn_of _ (by decide +kernel)) ggX4_count_X2_awayTogether
theorem dX4_count_0 : decode cX4_count 0 = .ok (.iload_n 1, 1) := by decide +kernel
theorem dX4_count_1 : decode cX4_count 1 = .ok (.tableswitch 123 0 8 #[51, 59, 67, 75, 83, 91, 99, 107, 115], 51) := by decide +kernel
theorem dX4_count_52 : decode cX4_count 52 = .ok (.aload_n 0, 1) := by decide +kernel
theorem dX4_count_53 : decode cX4_count 53 = .ok (.getfield 12, 3) := by decide +kernel
theorem dX4_count_56 : decode cX4_count 56 = .ok (.getfield 175, 3) := by decide +kernel
theorem dX4_count_59 : decode cX4_count 59 = .ok (.ireturn, 1) := by decide +kernel
theorem dX4_count_60 : decode cX4_count 60 = .ok (.aload_n 0, 1) := by decide +kernel
theorem dX4_count_61 : decode cX4_count 61 = .ok (.getfield 12, 3) := by decide +kernel
theorem dX4_count_64 : decode cX4_count 64 = .ok (.invokevirtual 70, 3) := by decide +kernel
theorem dX4_count_67 : decode cX4_count 67 = .ok (.ireturn, 1) := by decide +kernel
theorem dX4_count_68 : decode cX4_count 68 = .ok (.aload_n 0, 1) := by decide +kernel
theorem dX4_count_69 : decode cX4_count 69 = .ok (.getfield 12, 3) := by decide +kernel
theorem dX4_count_72 : decode cX4_count 72 = .ok (.getfield 92, 3) := by decide +kernel
theorem dX4_count_75 : decode cX4_count 75 = .ok (.ireturn, 1) := by decide +kernel
theorem dX4_count_76 : decode cX4_count 76 = .ok (.aload_n 0, 1) := by decide +kernel
theorem dX4_count_77 : decode cX4_count 77 = .ok (.getfield 12, 3) := by decide +kernel
theorem dX4_count_80 : decode cX4_count 80 = .ok (.getfield 96, 3) := by decide +kernel
theorem dX4_count_83 : decode cX4_count 83 = .ok (.ireturn, 1) := by decide +kernel
theorem dX4_count_84 : decode cX4_count 84 = .ok (.aload_n 0, 1) := by decide +kernel
theorem dX4_count_85 : decode cX4_count 85 = .ok (.getfield 12, 3) := by decide +kernel
theorem dX4_count_88 : decode cX4_count 88 = .ok (.invokevirtual 178, 3) := by decide +kernel
theorem dX4_count_91 : decode cX4_count 91 = .ok (.ireturn, 1) := by decide +kernel
theorem dX4_count_92 : decode cX4_count 92 = .ok (.aload_n 0, 1) := by decide +kernel
theorem dX4_count_93 : decode cX4_count 93 = .ok (.getfield 12, 3) := by decide +kernel
theorem dX4_count_96 : decode cX4_count 96 = .ok (.invokevirtual 181, 3) := by decide +kernel
theorem dX4_count_99 : decode cX4_count 99 = .ok (.ireturn, 1) := by decide +kernel
theorem dX4_count_100 : decode cX4_count 100 = .ok (.aload_n 0, 1) := by decide +kernel
theorem dX4_count_101 : decode cX4_count 101 = .ok (.getfield 12, 3) := by decide +kernel
theorem dX4_count_104 : decode cX4_count 104 = .ok (.invokevirtual 184, 3) := by decide +kernel
theorem dX4_count_107 : decode cX4_count 107 = .ok (.ireturn, 1) := by decide +kernel
theorem dX4_count_108 : decode cX4_count 108 = .ok (.aload_n 0, 1) := by decide +kernel
theorem dX4_count_109 : decode cX4_count 109 = .ok (.getfield 12, 3) := by decide +kernel
theorem dX4_count_112 : decode cX4_count 112 = .ok (.invokevirtual 187, 3) := by decide +kernel
theorem dX4_count_115 : decode cX4_count 115 = .ok (.ireturn, 1) := by decide +kernel
theorem dX4_count_116 : decode cX4_count 116 = .ok (.aload_n 0, 1) := by decide +kernel
theorem dX4_count_117 : decode cX4_count 117 = .ok (.getfield 22, 3) := by decide +kernel
theorem dX4_count_120 : decode cX4_count 120 = .ok (.getfield 138, 3) := by decide +kernel
theorem dX4_count_123 : decode cX4_count 123 = .ok (.ireturn, 1) := by decide +kernel
theorem dX4_count_124 : decode cX4_count 124 = .ok (.new 127, 3) := by decide +kernel
theorem dX4_count_127 : decode cX4_count 127 = .ok (.dup, 1) := by decide +kernel
theorem dX4_count_128 : decode cX4_count 128 = .ok (.ldc 190, 2) := by decide +kernel
theorem dX4_count_130 : decode cX4_count 130 = .ok (.invokespecial 131, 3) := by decide +kernel
theorem dX4_count_133 : decode cX4_count 133 = .ok (.athrow, 1) := by decide +kernel
set_option maxRecDepth 20000 in
theorem ggX4_pointing_X4_requireDirection : GoodIn wsX4_pointing wsX4_requireDirection := goodIn_ca (goodIn_r _ [5, 6, 7, 4, 8, 9, 10] (by decide +kernel) (by decide +kernel)) (goodIn_sub (fun _ h => List.mem_cons_of_mem _ (List.mem_append_right _ h)) (by decide +kernel))
set_option maxRecDepth 20000 in
theorem gX4_pointing_X4_requireDirection : GoodIn wsX4_pointing (va_wsS RX4 37 yX4_requireDirection wsX4_requireDirection) := goodIn_app (goodIn_of _ (by decide +kernel)) ggX4_pointing_X4_requireDirection
set_option maxRecDepth 20000 in
theorem ggX4_pointing_X2_pointingCount : GoodIn wsX4_pointing wsX2_pointingCount := goodIn_r _ [15, 16, 21, 22, 23, 24, 25, 26, 27, 28, 29, 30, 31, 32, 33] (by decide +kernel) (by decide +kernel)
set_option maxRecDepth 20000 in
theorem gX4_pointing_X2_pointingCount : GoodIn wsX4_pointing (wsV RX4 192 RX2 yX2_pointingCount wsX2_pointingCount) := goodIn_app (goodIn_of _ (by decide +kernel)) ggX4_pointing_X2_pointingCount
theorem dX4_pointing_0 : decode cX4_pointing 0 = .ok (.iload_n 1, 1) := by decide +kernel
theorem dX4_pointing_1 : decode cX4_pointing 1 = .ok (.invokestatic 37, 3) := by decide +kernel
theorem dX4_pointing_4 : decode cX4_pointing 4 = .ok (.aload_n 0, 1) := by decide +kernel
theorem dX4_pointing_5 : decode cX4_pointing 5 = .ok (.getfield 12, 3) := by decide +kernel
theorem dX4_pointing_8 : decode cX4_pointing 8 = .ok (.iload_n 1, 1) := by decide +kernel
theorem dX4_pointing_9 : decode cX4_pointing 9 = .ok (.invokevirtual 192, 3) := by decide +kernel
theorem dX4_pointing_12 : decode cX4_pointing 12 = .ok (.ireturn, 1) := by decide +kernel
set_option maxRecDepth 20000 in
theorem ggX4_setting_X4_requireSetting : GoodIn wsX4_setting wsX4_requireSetting := goodIn_ca (goodIn_r _ [5, 6, 7] (by decide +kernel) (by decide +kernel)) (goodIn_sub (fun _ h => List.mem_cons_of_mem _ (List.mem_append_right _ h)) (by decide +kernel))
set_option maxRecDepth 20000 in
theorem gX4_setting_X4_requireSetting : GoodIn wsX4_setting (va_wsS RX4 99 yX4_requireSetting wsX4_requireSetting) := goodIn_app (goodIn_of _ (by decide +kernel)) ggX4_setting_X4_requireSetting
theorem dX4_setting_0 : decode cX4_setting 0 = .ok (.iload_n 1, 1) := by decide +kernel
theorem dX4_setting_1 : decode cX4_setting 1 = .ok (.invokestatic 99, 3) := by decide +kernel
theorem dX4_setting_4 : decode cX4_setting 4 = .ok (.aload_n 0, 1) := by decide +kernel
theorem dX4_setting_5 : decode cX4_setting 5 = .ok (.getfield 12, 3) := by decide +kernel
theorem dX4_setting_8 : decode cX4_setting 8 = .ok (.getfield 105, 3) := by decide +kernel
theorem dX4_setting_11 : decode cX4_setting 11 = .ok (.iload_n 1, 1) := by decide +kernel
theorem dX4_setting_12 : decode cX4_setting 12 = .ok (.iaload, 1) := by decide +kernel
theorem dX4_setting_13 : decode cX4_setting 13 = .ok (.ireturn, 1) := by decide +kernel
set_option maxRecDepth 20000 in
theorem ggX4_restsIn_X2_copyFrom : GoodIn wsX4_restsIn wsX2_copyFrom := goodIn_r _ [7, 8, 9, 10, 11, 12, 13, 14, 15, 16, 17, 18, 19, 20, 60, 61, 62, 63, 64, 65, 66, 67, 68, 69, 70, 71, 72] (by decide +kernel) (by decide +kernel)
set_option maxRecDepth 20000 in
theorem gX4_restsIn_X2_copyFrom : GoodIn wsX4_restsIn (wsV RX4 195 RX2 yX2_copyFrom wsX2_copyFrom) := goodIn_app (goodIn_of _ (by decide +kernel)) ggX4_restsIn_X2_copyFrom
set_option maxRecDepth 20000 in
theorem ggX4_restsIn_X2_letGoBy : GoodIn wsX4_restsIn wsX2_letGoBy := goodIn_r _ [24, 20, 25, 26, 27, 6, 28, 8, 29, 30, 31, 32, 10, 15, 16, 9, 33, 34, 35, 36, 37, 38, 39, 40, 41, 13, 14, 42, 43, 44, 45, 17, 46, 47, 48, 49, 50, 51, 52, 53, 54, 55, 60, 61, 62, 63, 64, 65, 66, 67, 68, 69, 70, 71, 72] (by decide +kernel) (by decide +kernel)
set_option maxRecDepth 20000 in
theorem gX4_restsIn_X2_letGoBy : GoodIn wsX4_restsIn (wsV RX4 108 RX2 yX2_letGoBy wsX2_letGoBy) := goodIn_app (goodIn_of _ (by decide +kernel)) ggX4_restsIn_X2_letGoBy
theorem dX4_restsIn_0 : decode cX4_restsIn 0 = .ok (.aload_n 0, 1) := by decide +kernel
theorem dX4_restsIn_1 : decode cX4_restsIn 1 = .ok (.getfield 16, 3) := by decide +kernel
theorem dX4_restsIn_4 : decode cX4_restsIn 4 = .ok (.aload_n 0, 1) := by decide +kernel
theorem dX4_restsIn_5 : decode cX4_restsIn 5 = .ok (.getfield 12, 3) := by decide +kernel
theorem dX4_restsIn_8 : decode cX4_restsIn 8 = .ok (.invokevirtual 195, 3) := by decide +kernel
theorem dX4_restsIn_11 : decode cX4_restsIn 11 = .ok (.iconst 0, 1) := by decide +kernel
theorem dX4_restsIn_12 : decode cX4_restsIn 12 = .ok (.istore_n 1, 1) := by decide +kernel
theorem dX4_restsIn_13 : decode cX4_restsIn 13 = .ok (.iload_n 1, 1) := by decide +kernel
theorem dX4_restsIn_14 : decode cX4_restsIn 14 = .ok (.bipush 100, 2) := by decide +kernel
theorem dX4_restsIn_16 : decode cX4_restsIn 16 = .ok (.if_icmp .gt 22, 3) := by decide +kernel
theorem dX4_restsIn_19 : decode cX4_restsIn 19 = .ok (.aload_n 0, 1) := by decide +kernel
theorem dX4_restsIn_20 : decode cX4_restsIn 20 = .ok (.getfield 16, 3) := by decide +kernel
theorem dX4_restsIn_23 : decode cX4_restsIn 23 = .ok (.iconst 1, 1) := by decide +kernel
theorem dX4_restsIn_24 : decode cX4_restsIn 24 = .ok (.invokevirtual 108, 3) := by decide +kernel
theorem dX4_restsIn_27 : decode cX4_restsIn 27 = .ok (.ifCond .ne 5, 3) := by decide +kernel
theorem dX4_restsIn_30 : decode cX4_restsIn 30 = .ok (.iload_n 1, 1) := by decide +kernel
theorem dX4_restsIn_31 : decode cX4_restsIn 31 = .ok (.ireturn, 1) := by decide +kernel
theorem dX4_restsIn_32 : decode cX4_restsIn 32 = .ok (.iinc 1 1, 3) := by decide +kernel
theorem dX4_restsIn_35 : decode cX4_restsIn 35 = .ok (.goto (-22), 3) := by decide +kernel
theorem dX4_restsIn_38 : decode cX4_restsIn 38 = .ok (.iconst (-1), 1) := by decide +kernel
theorem dX4_restsIn_39 : decode cX4_restsIn 39 = .ok (.ireturn, 1) := by decide +kernel
set_option maxRecDepth 20000 in
theorem ggX4_points_X4_requireCell : GoodIn wsX4_points wsX4_requireCell := goodIn_ca (goodIn_r _ [6, 7, 8] (by decide +kernel) (by decide +kernel)) (goodIn_sub (fun _ h => List.mem_cons_of_mem _ (List.mem_append_left _ (List.mem_append_right _ h))) (by decide +kernel))
set_option maxRecDepth 20000 in
theorem gX4_points_X4_requireCell : GoodIn wsX4_points (va_wsS RX4 33 yX4_requireCell wsX4_requireCell) := goodIn_app (goodIn_of _ (by decide +kernel)) ggX4_points_X4_requireCell
set_option maxRecDepth 20000 in
theorem ggX4_points_X4_requireBetween : GoodIn wsX4_points wsX4_requireBetween := goodIn_ca (goodIn_r _ [11, 12, 13] (by decide +kernel) (by decide +kernel)) (goodIn_sub (fun _ h => List.mem_cons_of_mem _ (List.mem_append_right _ h)) (by decide +kernel))
set_option maxRecDepth 20000 in
theorem gX4_points_X4_requireBetween : GoodIn wsX4_points (va_wsS RX4 51 yX4_requireBetween wsX4_requireBetween) := goodIn_app (goodIn_of _ (by decide +kernel)) ggX4_points_X4_requireBetween
set_option maxRecDepth 20000 in
theorem ggX4_points_X2_copyFrom : GoodIn wsX4_points wsX2_copyFrom := goodIn_r _ [18, 19, 20, 21, 22, 23, 24, 25, 26, 27, 28, 29, 30, 31, 70, 71, 72, 73, 74, 75, 76, 77, 78, 79, 80, 81, 82] (by decide +kernel) (by decide +kernel)
set_option maxRecDepth 20000 in
theorem gX4_points_X2_copyFrom : GoodIn wsX4_points (wsV RX4 195 RX2 yX2_copyFrom wsX2_copyFrom) := goodIn_app (goodIn_of _ (by decide +kernel)) ggX4_points_X2_copyFrom
set_option maxRecDepth 20000 in
theorem ggX4_points_X2_letGoBy : GoodIn wsX4_points wsX2_letGoBy := goodIn_r _ [35, 31, 36, 37, 38, 17, 39, 19, 40, 41, 42, 43, 21, 26, 27, 20, 44, 5, 45, 46, 47, 48, 49, 50, 51, 24, 25, 52, 53, 54, 55, 28, 56, 57, 58, 59, 60, 61, 62, 63, 64, 65, 70, 71, 72, 73, 74, 75, 76, 77, 78, 79, 80, 81, 82] (by decide +kernel) (by decide +kernel)
set_option maxRecDepth 20000 in
theorem gX4_points_X2_letGoBy : GoodIn wsX4_points (wsV RX4 108 RX2 yX2_letGoBy wsX2_letGoBy) := goodIn_app (goodIn_of _ (by decide +kernel)) ggX4_points_X2_letGoBy
theorem dX4_points_0 : decode cX4_points 0 = .ok (.iload_n 1, 1) := by decide +kernel
theorem dX4_points_1 : decode cX4_points 1 = .ok (.invokestatic 33, 3) := by decide +kernel
theorem dX4_points_4 : decode cX4_points 4 = .ok (.iload_n 2, 1) := by decide +kernel
theorem dX4_points_5 : decode cX4_points 5 = .ok (.iconst 0, 1) := by decide +kernel
theorem dX4_points_6 : decode cX4_points 6 = .ok (.bipush 100, 2) := by decide +kernel
theorem dX4_points_8 : decode cX4_points 8 = .ok (.invokestatic 51, 3) := by decide +kernel
theorem dX4_points_11 : decode cX4_points 11 = .ok (.aload_n 0, 1) := by decide +kernel
theorem dX4_points_12 : decode cX4_points 12 = .ok (.getfield 16, 3) := by decide +kernel
theorem dX4_points_15 : decode cX4_points 15 = .ok (.aload_n 0, 1) := by decide +kernel
theorem dX4_points_16 : decode cX4_points 16 = .ok (.getfield 12, 3) := by decide +kernel
theorem dX4_points_19 : decode cX4_points 19 = .ok (.invokevirtual 195, 3) := by decide +kernel
theorem dX4_points_22 : decode cX4_points 22 = .ok (.aload_n 0, 1) := by decide +kernel
theorem dX4_points_23 : decode cX4_points 23 = .ok (.getfield 16, 3) := by decide +kernel
theorem dX4_points_26 : decode cX4_points 26 = .ok (.iload_n 2, 1) := by decide +kernel
theorem dX4_points_27 : decode cX4_points 27 = .ok (.invokevirtual 108, 3) := by decide +kernel
theorem dX4_points_30 : decode cX4_points 30 = .ok (.pop, 1) := by decide +kernel
theorem dX4_points_31 : decode cX4_points 31 = .ok (.aload_n 0, 1) := by decide +kernel
theorem dX4_points_32 : decode cX4_points 32 = .ok (.getfield 16, 3) := by decide +kernel
theorem dX4_points_35 : decode cX4_points 35 = .ok (.getfield 44, 3) := by decide +kernel
theorem dX4_points_38 : decode cX4_points 38 = .ok (.iload_n 1, 1) := by decide +kernel
theorem dX4_points_39 : decode cX4_points 39 = .ok (.iaload, 1) := by decide +kernel
theorem dX4_points_40 : decode cX4_points 40 = .ok (.ireturn, 1) := by decide +kernel
set_option maxRecDepth 20000 in
theorem ggX4_ifBar_X4_requireCell : GoodIn wsX4_ifBar wsX4_requireCell := goodIn_ca (goodIn_r _ [5, 6, 7] (by decide +kernel) (by decide +kernel)) (goodIn_sub (fun _ h => List.mem_cons_of_mem _ (List.mem_append_left _ (List.mem_append_right _ h))) (by decide +kernel))
set_option maxRecDepth 20000 in
theorem gX4_ifBar_X4_requireCell : GoodIn wsX4_ifBar (va_wsS RX4 33 yX4_requireCell wsX4_requireCell) := goodIn_app (goodIn_of _ (by decide +kernel)) ggX4_ifBar_X4_requireCell
set_option maxRecDepth 20000 in
theorem ggX4_ifBar_X4_requireDirection : GoodIn wsX4_ifBar wsX4_requireDirection := goodIn_ca (goodIn_r _ [10, 11, 12, 4, 13, 14, 15] (by decide +kernel) (by decide +kernel)) (goodIn_sub (fun _ h => List.mem_cons_of_mem _ (List.mem_append_right _ h)) (by decide +kernel))
set_option maxRecDepth 20000 in
theorem gX4_ifBar_X4_requireDirection : GoodIn wsX4_ifBar (va_wsS RX4 37 yX4_requireDirection wsX4_requireDirection) := goodIn_app (goodIn_of _ (by decide +kernel)) ggX4_ifBar_X4_requireDirection
set_option maxRecDepth 20000 in
theorem ggX4_ifBar_X4_requireBetween : GoodIn wsX4_ifBar wsX4_requireBetween := goodIn_ca (goodIn_r _ [13, 14, 15] (by decide +kernel) (by decide +kernel)) (goodIn_sub (fun _ h => List.mem_cons_of_mem _ (List.mem_append_right _ h)) (by decide +kernel))
set_option maxRecDepth 20000 in
theorem gX4_ifBar_X4_requireBetween : GoodIn wsX4_ifBar (va_wsS RX4 51 yX4_requireBetween wsX4_requireBetween) := goodIn_app (goodIn_of _ (by decide +kernel)) ggX4_ifBar_X4_requireBetween
set_option maxRecDepth 20000 in
theorem ggX4_ifBar_X2_aimIfBar : GoodIn wsX4_ifBar wsX2_aimIfBar := goodIn_r _ [20, 21, 22, 23, 24, 25, 4, 26, 27, 28, 29, 30, 31, 32, 33, 34, 35, 36, 45, 46, 47, 48, 49, 50, 51, 52, 53, 54, 55, 56, 57] (by decide +kernel) (by decide +kernel)
set_option maxRecDepth 20000 in
theorem gX4_ifBar_X2_aimIfBar : GoodIn wsX4_ifBar (wsV RX4 198 RX2 yX2_aimIfBar wsX2_aimIfBar) := goodIn_app (goodIn_of _ (by decide +kernel)) ggX4_ifBar_X2_aimIfBar
set_option maxRecDepth 20000 in
theorem ggX4_ifBar_X2_aim : GoodIn wsX4_ifBar wsX2_aim := goodIn_r _ [40, 23, 24, 35, 4, 36, 45, 46, 47, 48, 49, 50, 51, 52, 53, 54, 55, 56, 57] (by decide +kernel) (by decide +kernel)
set_option maxRecDepth 20000 in
theorem gX4_ifBar_X2_aim : GoodIn wsX4_ifBar (wsV RX4 153 RX2 yX2_aim wsX2_aim) := goodIn_app (goodIn_of _ (by decide +kernel)) ggX4_ifBar_X2_aim
theorem dX4_ifBar_0 : decode cX4_ifBar 0 = .ok (.iload_n 1, 1) := by decide +kernel
theorem dX4_ifBar_1 : decode cX4_ifBar 1 = .ok (.invokestatic 33, 3) := by decide +kernel
theorem dX4_ifBar_4 : decode cX4_ifBar 4 = .ok (.iload_n 2, 1) := by decide +kernel
theorem dX4_ifBar_5 : decode cX4_ifBar 5 = .ok (.invokestatic 37, 3) := by decide +kernel
theorem dX4_ifBar_8 : decode cX4_ifBar 8 = .ok (.iload_n 3, 1) := by decide +kernel
theorem dX4_ifBar_9 : decode cX4_ifBar 9 = .ok (.iconst 1, 1) := by decide +kernel
theorem dX4_ifBar_10 : decode cX4_ifBar 10 = .ok (.bipush 50, 2) := by decide +kernel
theorem dX4_ifBar_12 : decode cX4_ifBar 12 = .ok (.invokestatic 51, 3) := by decide +kernel
theorem dX4_ifBar_15 : decode cX4_ifBar 15 = .ok (.iconst 0, 1) := by decide +kernel
theorem dX4_ifBar_16 : decode cX4_ifBar 16 = .ok (.istore 4, 2) := by decide +kernel
theorem dX4_ifBar_18 : decode cX4_ifBar 18 = .ok (.iconst 0, 1) := by decide +kernel
theorem dX4_ifBar_19 : decode cX4_ifBar 19 = .ok (.istore 5, 2) := by decide +kernel
theorem dX4_ifBar_21 : decode cX4_ifBar 21 = .ok (.iload 5, 2) := by decide +kernel
theorem dX4_ifBar_23 : decode cX4_ifBar 23 = .ok (.bipush 36, 2) := by decide +kernel
theorem dX4_ifBar_25 : decode cX4_ifBar 25 = .ok (.if_icmp .ge 36, 3) := by decide +kernel
theorem dX4_ifBar_28 : decode cX4_ifBar 28 = .ok (.aload_n 0, 1) := by decide +kernel
theorem dX4_ifBar_29 : decode cX4_ifBar 29 = .ok (.getfield 12, 3) := by decide +kernel
theorem dX4_ifBar_32 : decode cX4_ifBar 32 = .ok (.iload 5, 2) := by decide +kernel
theorem dX4_ifBar_34 : decode cX4_ifBar 34 = .ok (.iload_n 1, 1) := by decide +kernel
theorem dX4_ifBar_35 : decode cX4_ifBar 35 = .ok (.iload_n 2, 1) := by decide +kernel
theorem dX4_ifBar_36 : decode cX4_ifBar 36 = .ok (.iload_n 3, 1) := by decide +kernel
theorem dX4_ifBar_37 : decode cX4_ifBar 37 = .ok (.invokevirtual 198, 3) := by decide +kernel
theorem dX4_ifBar_40 : decode cX4_ifBar 40 = .ok (.aload_n 0, 1) := by decide +kernel
theorem dX4_ifBar_41 : decode cX4_ifBar 41 = .ok (.getfield 12, 3) := by decide +kernel
theorem dX4_ifBar_44 : decode cX4_ifBar 44 = .ok (.iload 5, 2) := by decide +kernel
theorem dX4_ifBar_46 : decode cX4_ifBar 46 = .ok (.invokevirtual 153, 3) := by decide +kernel
theorem dX4_ifBar_49 : decode cX4_ifBar 49 = .ok (.if_icmp .eq 6, 3) := by decide +kernel
theorem dX4_ifBar_52 : decode cX4_ifBar 52 = .ok (.iinc 4 1, 3) := by decide +kernel
theorem dX4_ifBar_55 : decode cX4_ifBar 55 = .ok (.iinc 5 1, 3) := by decide +kernel
theorem dX4_ifBar_58 : decode cX4_ifBar 58 = .ok (.goto (-37), 3) := by decide +kernel
theorem dX4_ifBar_61 : decode cX4_ifBar 61 = .ok (.iload 4, 2) := by decide +kernel
theorem dX4_ifBar_63 : decode cX4_ifBar 63 = .ok (.ireturn, 1) := by decide +kernel
set_option maxRecDepth 20000 in
theorem ggX4_bestBar_X4_requireCell : GoodIn wsX4_bestBar wsX4_requireCell := goodIn_ca (goodIn_r _ [5, 6, 7] (by decide +kernel) (by decide +kernel)) (goodIn_sub (fun _ h => List.mem_cons_of_mem _ (List.mem_append_left _ (List.mem_append_right _ h))) (by decide +kernel))
set_option maxRecDepth 20000 in
theorem gX4_bestBar_X4_requireCell : GoodIn wsX4_bestBar (va_wsS RX4 33 yX4_requireCell wsX4_requireCell) := goodIn_app (goodIn_of _ (by decide +kernel)) ggX4_bestBar_X4_requireCell
set_option maxRecDepth 20000 in
theorem ggX4_bestBar_X4_requireDirection : GoodIn wsX4_bestBar wsX4_requireDirection := goodIn_ca (goodIn_r _ [10, 11, 12, 4, 13, 14, 15] (by decide +kernel) (by decide +kernel)) (goodIn_sub (fun _ h => List.mem_cons_of_mem _ (List.mem_append_right _ h)) (by decide +kernel))
set_option maxRecDepth 20000 in
theorem gX4_bestBar_X4_requireDirection : GoodIn wsX4_bestBar (va_wsS RX4 37 yX4_requireDirection wsX4_requireDirection) := goodIn_app (goodIn_of _ (by decide +kernel)) ggX4_bestBar_X4_requireDirection
set_option maxRecDepth 20000 in
theorem ggX4_bestBar_X4_requireBetween : GoodIn wsX4_bestBar wsX4_requireBetween := goodIn_ca (goodIn_r _ [13, 14, 15] (by decide +kernel) (by decide +kernel)) (goodIn_sub (fun _ h => List.mem_cons_of_mem _ (List.mem_append_right _ h)) (by decide +kernel))
set_option maxRecDepth 20000 in
theorem gX4_bestBar_X4_requireBetween : GoodIn wsX4_bestBar (va_wsS RX4 51 yX4_requireBetween wsX4_requireBetween) := goodIn_app (goodIn_of _ (by decide +kernel)) ggX4_bestBar_X4_requireBetween
set_option maxRecDepth 20000 in
theorem ggX4_bestBar_X2_aimIfBar : GoodIn wsX4_bestBar wsX2_aimIfBar := goodIn_r _ [20, 21, 22, 23, 24, 25, 4, 26, 27, 28, 29, 30, 31, 32, 33, 34, 35, 36, 41, 42, 43, 44, 45, 46, 47, 48, 49, 50, 51, 52, 53] (by decide +kernel) (by decide +kernel)
set_option maxRecDepth 20000 in
theorem gX4_bestBar_X2_aimIfBar : GoodIn wsX4_bestBar (wsV RX4 198 RX2 yX2_aimIfBar wsX2_aimIfBar) := goodIn_app (goodIn_of _ (by decide +kernel)) ggX4_bestBar_X2_aimIfBar
theorem dX4_bestBar_0 : decode cX4_bestBar 0 = .ok (.iload_n 1, 1) := by decide +kernel
theorem dX4_bestBar_1 : decode cX4_bestBar 1 = .ok (.invokestatic 33, 3) := by decide +kernel
theorem dX4_bestBar_4 : decode cX4_bestBar 4 = .ok (.iload_n 2, 1) := by decide +kernel
theorem dX4_bestBar_5 : decode cX4_bestBar 5 = .ok (.invokestatic 37, 3) := by decide +kernel
theorem dX4_bestBar_8 : decode cX4_bestBar 8 = .ok (.iload_n 3, 1) := by decide +kernel
theorem dX4_bestBar_9 : decode cX4_bestBar 9 = .ok (.iconst 1, 1) := by decide +kernel
theorem dX4_bestBar_10 : decode cX4_bestBar 10 = .ok (.bipush 50, 2) := by decide +kernel
theorem dX4_bestBar_12 : decode cX4_bestBar 12 = .ok (.invokestatic 51, 3) := by decide +kernel
theorem dX4_bestBar_15 : decode cX4_bestBar 15 = .ok (.iconst 0, 1) := by decide +kernel
theorem dX4_bestBar_16 : decode cX4_bestBar 16 = .ok (.istore 4, 2) := by decide +kernel
theorem dX4_bestBar_18 : decode cX4_bestBar 18 = .ok (.iload 4, 2) := by decide +kernel
theorem dX4_bestBar_20 : decode cX4_bestBar 20 = .ok (.bipush 36, 2) := by decide +kernel
theorem dX4_bestBar_22 : decode cX4_bestBar 22 = .ok (.if_icmp .ge 51, 3) := by decide +kernel
theorem dX4_bestBar_25 : decode cX4_bestBar 25 = .ok (.iconst 0, 1) := by decide +kernel
theorem dX4_bestBar_26 : decode cX4_bestBar 26 = .ok (.istore 5, 2) := by decide +kernel
theorem dX4_bestBar_28 : decode cX4_bestBar 28 = .ok (.iload 5, 2) := by decide +kernel
theorem dX4_bestBar_30 : decode cX4_bestBar 30 = .ok (.bipush 8, 2) := by decide +kernel
theorem dX4_bestBar_32 : decode cX4_bestBar 32 = .ok (.if_icmp .ge 35, 3) := by decide +kernel
theorem dX4_bestBar_35 : decode cX4_bestBar 35 = .ok (.aload_n 0, 1) := by decide +kernel
theorem dX4_bestBar_36 : decode cX4_bestBar 36 = .ok (.getfield 12, 3) := by decide +kernel
theorem dX4_bestBar_39 : decode cX4_bestBar 39 = .ok (.iload_n 1, 1) := by decide +kernel
theorem dX4_bestBar_40 : decode cX4_bestBar 40 = .ok (.iload 4, 2) := by decide +kernel
theorem dX4_bestBar_42 : decode cX4_bestBar 42 = .ok (.iload 5, 2) := by decide +kernel
theorem dX4_bestBar_44 : decode cX4_bestBar 44 = .ok (.iload_n 3, 1) := by decide +kernel
theorem dX4_bestBar_45 : decode cX4_bestBar 45 = .ok (.invokevirtual 198, 3) := by decide +kernel
theorem dX4_bestBar_48 : decode cX4_bestBar 48 = .ok (.iload_n 2, 1) := by decide +kernel
theorem dX4_bestBar_49 : decode cX4_bestBar 49 = .ok (.if_icmp .ne 12, 3) := by decide +kernel
theorem dX4_bestBar_52 : decode cX4_bestBar 52 = .ok (.iload 4, 2) := by decide +kernel
theorem dX4_bestBar_54 : decode cX4_bestBar 54 = .ok (.bipush 8, 2) := by decide +kernel
theorem dX4_bestBar_56 : decode cX4_bestBar 56 = .ok (.imul, 1) := by decide +kernel
theorem dX4_bestBar_57 : decode cX4_bestBar 57 = .ok (.iload 5, 2) := by decide +kernel
theorem dX4_bestBar_59 : decode cX4_bestBar 59 = .ok (.iadd, 1) := by decide +kernel
theorem dX4_bestBar_60 : decode cX4_bestBar 60 = .ok (.ireturn, 1) := by decide +kernel
theorem dX4_bestBar_61 : decode cX4_bestBar 61 = .ok (.iinc 5 1, 3) := by decide +kernel
theorem dX4_bestBar_64 : decode cX4_bestBar 64 = .ok (.goto (-36), 3) := by decide +kernel
theorem dX4_bestBar_67 : decode cX4_bestBar 67 = .ok (.iinc 4 1, 3) := by decide +kernel
theorem dX4_bestBar_70 : decode cX4_bestBar 70 = .ok (.goto (-52), 3) := by decide +kernel
theorem dX4_bestBar_73 : decode cX4_bestBar 73 = .ok (.iconst (-1), 1) := by decide +kernel
theorem dX4_bestBar_74 : decode cX4_bestBar 74 = .ok (.ireturn, 1) := by decide +kernel
set_option maxRecDepth 20000 in
theorem ggX4_leastTurns_X4_requireCell : GoodIn wsX4_leastTurns wsX4_requireCell := goodIn_ca (goodIn_r _ [5, 6, 7] (by decide +kernel) (by decide +kernel)) (goodIn_sub (fun _ h => List.mem_cons_of_mem _ (List.mem_append_right _ h)) (by decide +kernel))
set_option maxRecDepth 20000 in
theorem gX4_leastTurns_X4_requireCell : GoodIn wsX4_leastTurns (va_wsS RX4 33 yX4_requireCell wsX4_requireCell) := goodIn_app (goodIn_of _ (by decide +kernel)) ggX4_leastTurns_X4_requireCell
set_option maxRecDepth 20000 in
theorem ggX4_leastTurns_X2_aimIfTurns : GoodIn wsX4_leastTurns wsX2_aimIfTurns := goodIn_r _ [12, 13, 14, 15, 16, 17, 18, 4, 19, 20, 21, 22, 23, 24, 25, 30, 31, 32, 33, 34, 35, 36, 37, 38, 39, 40, 41, 42] (by decide +kernel) (by decide +kernel)
set_option maxRecDepth 20000 in
theorem gX4_leastTurns_X2_aimIfTurns : GoodIn wsX4_leastTurns (wsV RX4 202 RX2 yX2_aimIfTurns wsX2_aimIfTurns) := goodIn_app (goodIn_of _ (by decide +kernel)) ggX4_leastTurns_X2_aimIfTurns
theorem dX4_leastTurns_0 : decode cX4_leastTurns 0 = .ok (.iload_n 1, 1) := by decide +kernel
theorem dX4_leastTurns_1 : decode cX4_leastTurns 1 = .ok (.invokestatic 33, 3) := by decide +kernel
theorem dX4_leastTurns_4 : decode cX4_leastTurns 4 = .ok (.iconst 0, 1) := by decide +kernel
theorem dX4_leastTurns_5 : decode cX4_leastTurns 5 = .ok (.istore_n 2, 1) := by decide +kernel
theorem dX4_leastTurns_6 : decode cX4_leastTurns 6 = .ok (.iload_n 2, 1) := by decide +kernel
theorem dX4_leastTurns_7 : decode cX4_leastTurns 7 = .ok (.bipush 50, 2) := by decide +kernel
theorem dX4_leastTurns_9 : decode cX4_leastTurns 9 = .ok (.if_icmp .gt 30, 3) := by decide +kernel
theorem dX4_leastTurns_12 : decode cX4_leastTurns 12 = .ok (.aload_n 0, 1) := by decide +kernel
theorem dX4_leastTurns_13 : decode cX4_leastTurns 13 = .ok (.getfield 12, 3) := by decide +kernel
theorem dX4_leastTurns_16 : decode cX4_leastTurns 16 = .ok (.iload_n 1, 1) := by decide +kernel
theorem dX4_leastTurns_17 : decode cX4_leastTurns 17 = .ok (.iload_n 2, 1) := by decide +kernel
theorem dX4_leastTurns_18 : decode cX4_leastTurns 18 = .ok (.invokevirtual 202, 3) := by decide +kernel
theorem dX4_leastTurns_21 : decode cX4_leastTurns 21 = .ok (.aload_n 0, 1) := by decide +kernel
theorem dX4_leastTurns_22 : decode cX4_leastTurns 22 = .ok (.getfield 12, 3) := by decide +kernel
theorem dX4_leastTurns_25 : decode cX4_leastTurns 25 = .ok (.getfield 96, 3) := by decide +kernel
theorem dX4_leastTurns_28 : decode cX4_leastTurns 28 = .ok (.if_icmp .ne 5, 3) := by decide +kernel
theorem dX4_leastTurns_31 : decode cX4_leastTurns 31 = .ok (.iload_n 2, 1) := by decide +kernel
theorem dX4_leastTurns_32 : decode cX4_leastTurns 32 = .ok (.ireturn, 1) := by decide +kernel
theorem dX4_leastTurns_33 : decode cX4_leastTurns 33 = .ok (.iinc 2 1, 3) := by decide +kernel
theorem dX4_leastTurns_36 : decode cX4_leastTurns 36 = .ok (.goto (-30), 3) := by decide +kernel
theorem dX4_leastTurns_39 : decode cX4_leastTurns 39 = .ok (.iconst (-1), 1) := by decide +kernel
theorem dX4_leastTurns_40 : decode cX4_leastTurns 40 = .ok (.ireturn, 1) := by decide +kernel
set_option maxRecDepth 20000 in
theorem ggX4_obedience_X2_aimedCount : GoodIn wsX4_obedience wsX2_aimedCount := goodIn_r _ [6, 7, 8, 9, 5, 10, 11, 12, 13, 14, 15, 25, 26, 27, 28, 29, 30, 31, 32, 33, 34, 35, 36, 37] (by decide +kernel) (by decide +kernel)
set_option maxRecDepth 20000 in
theorem gX4_obedience_X2_aimedCount : GoodIn wsX4_obedience (wsV RX4 206 RX2 yX2_aimedCount wsX2_aimedCount) := goodIn_app (goodIn_of _ (by decide +kernel)) ggX4_obedience_X2_aimedCount
set_option maxRecDepth 20000 in
theorem ggX4_obedience_X2_obeyingCount : GoodIn wsX4_obedience wsX2_obeyingCount := goodIn_r _ [19, 20, 7, 8, 9, 5, 10, 11, 12, 13, 14, 15, 25, 26, 27, 28, 29, 30, 31, 32, 33, 34, 35, 36, 37] (by decide +kernel) (by decide +kernel)
set_option maxRecDepth 20000 in
theorem gX4_obedience_X2_obeyingCount : GoodIn wsX4_obedience (wsV RX4 184 RX2 yX2_obeyingCount wsX2_obeyingCount) := goodIn_app (goodIn_of _ (by decide +kernel)) ggX4_obedience_X2_obeyingCount
theorem dX4_obedience_0 : decode cX4_obedience 0 = .ok (.aload_n 0, 1) := by decide +kernel
theorem dX4_obedience_1 : decode cX4_obedience 1 = .ok (.getfield 12, 3) := by decide +kernel
theorem dX4_obedience_4 : decode cX4_obedience 4 = .ok (.invokevirtual 206, 3) := by decide +kernel
theorem dX4_obedience_7 : decode cX4_obedience 7 = .ok (.istore_n 1, 1) := by decide +kernel
theorem dX4_obedience_8 : decode cX4_obedience 8 = .ok (.iload_n 1, 1) := by decide +kernel
theorem dX4_obedience_9 : decode cX4_obedience 9 = .ok (.ifCond .ne 5, 3) := by decide +kernel
theorem dX4_obedience_12 : decode cX4_obedience 12 = .ok (.dconst 1, 1) := by decide +kernel
theorem dX4_obedience_13 : decode cX4_obedience 13 = .ok (.dreturn, 1) := by decide +kernel
theorem dX4_obedience_14 : decode cX4_obedience 14 = .ok (.aload_n 0, 1) := by decide +kernel
theorem dX4_obedience_15 : decode cX4_obedience 15 = .ok (.getfield 12, 3) := by decide +kernel
theorem dX4_obedience_18 : decode cX4_obedience 18 = .ok (.invokevirtual 184, 3) := by decide +kernel
theorem dX4_obedience_21 : decode cX4_obedience 21 = .ok (.i2d, 1) := by decide +kernel
theorem dX4_obedience_22 : decode cX4_obedience 22 = .ok (.iload_n 1, 1) := by decide +kernel
theorem dX4_obedience_23 : decode cX4_obedience 23 = .ok (.i2d, 1) := by decide +kernel
theorem dX4_obedience_24 : decode cX4_obedience 24 = .ok (.ddiv, 1) := by decide +kernel
theorem dX4_obedience_25 : decode cX4_obedience 25 = .ok (.dreturn, 1) := by decide +kernel
set_option maxRecDepth 20000 in
theorem ggX4_digest_X4_count : GoodIn wsX4_digest wsX4_count := goodIn_ca (goodIn_r _ [6, 7, 8, 9, 10, 11, 12, 13, 14, 15, 16, 17, 18, 19, 20, 21, 22, 23, 24, 25, 26, 27, 28, 29, 30, 31, 32, 33, 34, 35, 36, 37, 38, 39, 40, 41, 42, 5, 43, 44, 45, 46, 47, 48, 49, 50, 51, 52, 53, 54, 55, 56, 57, 58, 59, 60, 61, 205, 206, 207, 208, 209, 210, 211, 212, 213, 214, 215, 216, 217, 218, 219, 220, 221, 222, 223, 224] (by decide +kernel) (by decide +kernel)) (goodIn_sub (fun _ h => List.mem_cons_of_mem _ (List.mem_append_left _ (List.mem_append_right _ h))) (by decide +kernel))
