theorem dX4_cell_114 : decode cX4_cell 114 = .ok (.iadd, 1) := by decide +kernel
theorem dX4_cell_115 : decode cX4_cell 115 = .ok (.ireturn, 1) := by decide +kernel
theorem dX4_cell_116 : decode cX4_cell 116 = .ok (.aload_n 0, 1) := by decide +kernel
theorem dX4_cell_117 : decode cX4_cell 117 = .ok (.getfield 12, 3) := by decide +kernel
theorem dX4_cell_120 : decode cX4_cell 120 = .ok (.iload_n 1, 1) := by decide +kernel
theorem dX4_cell_121 : decode cX4_cell 121 = .ok (.invokevirtual 153, 3) := by decide +kernel
theorem dX4_cell_124 : decode cX4_cell 124 = .ok (.ireturn, 1) := by decide +kernel
theorem dX4_cell_125 : decode cX4_cell 125 = .ok (.aload_n 0, 1) := by decide +kernel
theorem dX4_cell_126 : decode cX4_cell 126 = .ok (.getfield 12, 3) := by decide +kernel
theorem dX4_cell_129 : decode cX4_cell 129 = .ok (.iload_n 1, 1) := by decide +kernel
theorem dX4_cell_130 : decode cX4_cell 130 = .ok (.invokevirtual 156, 3) := by decide +kernel
theorem dX4_cell_133 : decode cX4_cell 133 = .ok (.ifCond .eq 7, 3) := by decide +kernel
theorem dX4_cell_136 : decode cX4_cell 136 = .ok (.iconst 1, 1) := by decide +kernel
theorem dX4_cell_137 : decode cX4_cell 137 = .ok (.goto 4, 3) := by decide +kernel
theorem dX4_cell_140 : decode cX4_cell 140 = .ok (.iconst 0, 1) := by decide +kernel
theorem dX4_cell_141 : decode cX4_cell 141 = .ok (.ireturn, 1) := by decide +kernel
theorem dX4_cell_142 : decode cX4_cell 142 = .ok (.aload_n 0, 1) := by decide +kernel
theorem dX4_cell_143 : decode cX4_cell 143 = .ok (.getfield 12, 3) := by decide +kernel
theorem dX4_cell_146 : decode cX4_cell 146 = .ok (.iload_n 1, 1) := by decide +kernel
theorem dX4_cell_147 : decode cX4_cell 147 = .ok (.invokevirtual 159, 3) := by decide +kernel
theorem dX4_cell_150 : decode cX4_cell 150 = .ok (.ireturn, 1) := by decide +kernel
theorem dX4_cell_151 : decode cX4_cell 151 = .ok (.new 127, 3) := by decide +kernel
theorem dX4_cell_154 : decode cX4_cell 154 = .ok (.dup, 1) := by decide +kernel
theorem dX4_cell_155 : decode cX4_cell 155 = .ok (.ldc 162, 2) := by decide +kernel
theorem dX4_cell_157 : decode cX4_cell 157 = .ok (.invokespecial 131, 3) := by decide +kernel
theorem dX4_cell_160 : decode cX4_cell 160 = .ok (.athrow, 1) := by decide +kernel
set_option maxRecDepth 20000 in
theorem ggX4_barOf_X4_requireBetween : GoodIn wsX4_barOf wsX4_requireBetween := goodIn_ca (goodIn_r _ [7, 1, 2] (by decide +kernel) (by decide +kernel)) (goodIn_sub (fun _ h => List.mem_cons_of_mem _ (List.mem_append_right _ h)) (by decide +kernel))
set_option maxRecDepth 20000 in
theorem gX4_barOf_X4_requireBetween : GoodIn wsX4_barOf (va_wsS RX4 51 yX4_requireBetween wsX4_requireBetween) := goodIn_app (goodIn_of _ (by decide +kernel)) ggX4_barOf_X4_requireBetween
set_option maxRecDepth 20000 in
theorem ggX4_barOf_X2_cellOfBar : GoodIn wsX4_barOf wsX2_cellOfBar := goodIn_r _ [12, 13, 14, 15, 11, 16, 17, 22, 23, 24, 25, 26, 27, 28, 29, 30, 31, 32, 33, 34] (by decide +kernel) (by decide +kernel)
set_option maxRecDepth 20000 in
theorem gX4_barOf_X2_cellOfBar : GoodIn wsX4_barOf (wsV RX4 166 RX2 yX2_cellOfBar wsX2_cellOfBar) := goodIn_app (goodIn_of _ (by decide +kernel)) ggX4_barOf_X2_cellOfBar
theorem dX4_barOf_0 : decode cX4_barOf 0 = .ok (.iload_n 1, 1) := by decide +kernel
theorem dX4_barOf_1 : decode cX4_barOf 1 = .ok (.ifCond .ge 13, 3) := by decide +kernel
theorem dX4_barOf_4 : decode cX4_barOf 4 = .ok (.new 127, 3) := by decide +kernel
theorem dX4_barOf_7 : decode cX4_barOf 7 = .ok (.dup, 1) := by decide +kernel
theorem dX4_barOf_8 : decode cX4_barOf 8 = .ok (.ldc 164, 2) := by decide +kernel
theorem dX4_barOf_10 : decode cX4_barOf 10 = .ok (.invokespecial 131, 3) := by decide +kernel
theorem dX4_barOf_13 : decode cX4_barOf 13 = .ok (.athrow, 1) := by decide +kernel
theorem dX4_barOf_14 : decode cX4_barOf 14 = .ok (.iload_n 2, 1) := by decide +kernel
theorem dX4_barOf_15 : decode cX4_barOf 15 = .ok (.iconst 0, 1) := by decide +kernel
theorem dX4_barOf_16 : decode cX4_barOf 16 = .ok (.iconst 2, 1) := by decide +kernel
theorem dX4_barOf_17 : decode cX4_barOf 17 = .ok (.invokestatic 51, 3) := by decide +kernel
theorem dX4_barOf_20 : decode cX4_barOf 20 = .ok (.aload_n 0, 1) := by decide +kernel
theorem dX4_barOf_21 : decode cX4_barOf 21 = .ok (.getfield 12, 3) := by decide +kernel
theorem dX4_barOf_24 : decode cX4_barOf 24 = .ok (.iload_n 1, 1) := by decide +kernel
theorem dX4_barOf_25 : decode cX4_barOf 25 = .ok (.invokevirtual 166, 3) := by decide +kernel
theorem dX4_barOf_28 : decode cX4_barOf 28 = .ok (.istore_n 3, 1) := by decide +kernel
theorem dX4_barOf_29 : decode cX4_barOf 29 = .ok (.iload_n 3, 1) := by decide +kernel
theorem dX4_barOf_30 : decode cX4_barOf 30 = .ok (.iconst (-1), 1) := by decide +kernel
theorem dX4_barOf_31 : decode cX4_barOf 31 = .ok (.if_icmp .eq 7, 3) := by decide +kernel
theorem dX4_barOf_34 : decode cX4_barOf 34 = .ok (.iload_n 2, 1) := by decide +kernel
theorem dX4_barOf_35 : decode cX4_barOf 35 = .ok (.ifCond .ne 5, 3) := by decide +kernel
theorem dX4_barOf_38 : decode cX4_barOf 38 = .ok (.iload_n 3, 1) := by decide +kernel
theorem dX4_barOf_39 : decode cX4_barOf 39 = .ok (.ireturn, 1) := by decide +kernel
theorem dX4_barOf_40 : decode cX4_barOf 40 = .ok (.iload_n 2, 1) := by decide +kernel
theorem dX4_barOf_41 : decode cX4_barOf 41 = .ok (.iconst 1, 1) := by decide +kernel
theorem dX4_barOf_42 : decode cX4_barOf 42 = .ok (.if_icmp .ne 15, 3) := by decide +kernel
theorem dX4_barOf_45 : decode cX4_barOf 45 = .ok (.aload_n 0, 1) := by decide +kernel
theorem dX4_barOf_46 : decode cX4_barOf 46 = .ok (.getfield 12, 3) := by decide +kernel
theorem dX4_barOf_49 : decode cX4_barOf 49 = .ok (.getfield 169, 3) := by decide +kernel
theorem dX4_barOf_52 : decode cX4_barOf 52 = .ok (.iload_n 3, 1) := by decide +kernel
theorem dX4_barOf_53 : decode cX4_barOf 53 = .ok (.iaload, 1) := by decide +kernel
theorem dX4_barOf_54 : decode cX4_barOf 54 = .ok (.goto 12, 3) := by decide +kernel
theorem dX4_barOf_57 : decode cX4_barOf 57 = .ok (.aload_n 0, 1) := by decide +kernel
theorem dX4_barOf_58 : decode cX4_barOf 58 = .ok (.getfield 12, 3) := by decide +kernel
theorem dX4_barOf_61 : decode cX4_barOf 61 = .ok (.getfield 172, 3) := by decide +kernel
theorem dX4_barOf_64 : decode cX4_barOf 64 = .ok (.iload_n 3, 1) := by decide +kernel
theorem dX4_barOf_65 : decode cX4_barOf 65 = .ok (.iaload, 1) := by decide +kernel
theorem dX4_barOf_66 : decode cX4_barOf 66 = .ok (.ireturn, 1) := by decide +kernel
set_option maxRecDepth 20000 in
theorem ggX4_count_X2_barCount : GoodIn wsX4_count wsX2_barCount := goodIn_r _ [9, 10, 11, 12, 8, 13, 14, 61, 62, 63, 64, 65, 66, 67, 68, 69, 70, 71, 72, 73] (by decide +kernel) (by decide +kernel)
set_option maxRecDepth 20000 in
theorem gX4_count_X2_barCount : GoodIn wsX4_count (wsV RX4 70 RX2 yX2_barCount wsX2_barCount) := goodIn_app (goodIn_of _ (by decide +kernel)) ggX4_count_X2_barCount
set_option maxRecDepth 20000 in
theorem ggX4_count_X2_heldCount : GoodIn wsX4_count wsX2_heldCount := goodIn_r _ [18, 19, 61, 62, 63, 64, 65, 66, 67, 68, 69, 70, 71, 72, 73] (by decide +kernel) (by decide +kernel)
set_option maxRecDepth 20000 in
theorem gX4_count_X2_heldCount : GoodIn wsX4_count (wsV RX4 178 RX2 yX2_heldCount wsX2_heldCount) := goodIn_app (goodIn_of _ (by decide +kernel)) ggX4_count_X2_heldCount
set_option maxRecDepth 20000 in
theorem ggX4_count_X2_turningCount : GoodIn wsX4_count wsX2_turningCount := goodIn_r _ [23, 24, 25, 26, 8, 27, 28, 29, 30, 31, 32, 19, 33, 34, 35, 36, 37, 38, 39, 40, 61, 62, 63, 64, 65, 66, 67, 68, 69, 70, 71, 72, 73] (by decide +kernel) (by decide +kernel)
set_option maxRecDepth 20000 in
theorem gX4_count_X2_turningCount : GoodIn wsX4_count (wsV RX4 181 RX2 yX2_turningCount wsX2_turningCount) := goodIn_app (goodIn_of _ (by decide +kernel)) ggX4_count_X2_turningCount
set_option maxRecDepth 20000 in
theorem ggX4_count_X2_obeyingCount : GoodIn wsX4_count wsX2_obeyingCount := goodIn_r _ [44, 28, 45, 46, 47, 8, 48, 33, 34, 36, 37, 38, 61, 62, 63, 64, 65, 66, 67, 68, 69, 70, 71, 72, 73] (by decide +kernel) (by decide +kernel)
set_option maxRecDepth 20000 in
theorem gX4_count_X2_obeyingCount : GoodIn wsX4_count (wsV RX4 184 RX2 yX2_obeyingCount wsX2_obeyingCount) := goodIn_app (goodIn_of _ (by decide +kernel)) ggX4_count_X2_obeyingCount
set_option maxRecDepth 20000 in
theorem ggX4_count_X2_awayTogether : GoodIn wsX4_count wsX2_awayTogether := goodIn_r _ [52, 53, 54, 55, 8, 56, 28, 45, 46, 47, 48, 33, 34, 36, 37, 38, 39, 40, 61, 62, 63, 64, 65, 66, 67, 68, 69, 70, 71, 72, 73] (by decide +kernel) (by decide +kernel)
set_option maxRecDepth 20000 in
theorem gX4_count_X2_awayTogether : GoodIn wsX4_count (wsV RX4 187 RX2 yX2_awayTogether wsX2_awayTogether) := goodIn_app (goodIn_of _ (by decide +kernel)) ggX4_count_X2_awayTogether
theorem dX4_count_0 : decode cX4_count 0 = .ok (.iload_n 1, 1) := by decide +kernel
theorem dX4_count_1 : decode cX4_count 1 = .ok (.tableswitch 123 0 8 #[51, 59, 67, 75, 83, 91, 99, 107, 115], 51) := by decide +kernel
theorem dX4_count_52 : decode cX4_count 52 = .ok (.aload_n 0, 1) := by decide +kernel
theorem dX4_count_53 : decode cX4_count 53 = .ok (.getfield 12, 3) := by decide +kernel
theorem dX4_count_56 : decode cX4_count 56 = .ok (.getfield 175, 3) := by decide +kernel
theorem dX4_count_59 : decode cX4_count 59 = .ok (.ireturn, 1) := by decide +kernel
theorem dX4_count_60 : decode cX4_count 60 = .ok (.aload_n 0, 1) := by decide +kernel
theorem dX4_count_61 : decode cX4_count 61 = .ok (.getfield 12, 3) := by decide +kernel
theorem dX4_count_64 : decode cX4_count 64 = .ok (.invokevirtual 70, 3) := by decide +kernel
theorem dX4_count_67 : decode cX4_count 67 = .ok (.ireturn, 1) := by decide +kernel
theorem dX4_count_68 : decode cX4_count 68 = .ok (.aload_n 0, 1) := by decide +kernel
theorem dX4_count_69 : decode cX4_count 69 = .ok (.getfield 12, 3) := by decide +kernel
theorem dX4_count_72 : decode cX4_count 72 = .ok (.getfield 92, 3) := by decide +kernel
theorem dX4_count_75 : decode cX4_count 75 = .ok (.ireturn, 1) := by decide +kernel
theorem dX4_count_76 : decode cX4_count 76 = .ok (.aload_n 0, 1) := by decide +kernel
theorem dX4_count_77 : decode cX4_count 77 = .ok (.getfield 12, 3) := by decide +kernel
theorem dX4_count_80 : decode cX4_count 80 = .ok (.getfield 96, 3) := by decide +kernel
theorem dX4_count_83 : decode cX4_count 83 = .ok (.ireturn, 1) := by decide +kernel
theorem dX4_count_84 : decode cX4_count 84 = .ok (.aload_n 0, 1) := by decide +kernel
theorem dX4_count_85 : decode cX4_count 85 = .ok (.getfield 12, 3) := by decide +kernel
theorem dX4_count_88 : decode cX4_count 88 = .ok (.invokevirtual 178, 3) := by decide +kernel
theorem dX4_count_91 : decode cX4_count 91 = .ok (.ireturn, 1) := by decide +kernel
theorem dX4_count_92 : decode cX4_count 92 = .ok (.aload_n 0, 1) := by decide +kernel
theorem dX4_count_93 : decode cX4_count 93 = .ok (.getfield 12, 3) := by decide +kernel
theorem dX4_count_96 : decode cX4_count 96 = .ok (.invokevirtual 181, 3) := by decide +kernel
theorem dX4_count_99 : decode cX4_count 99 = .ok (.ireturn, 1) := by decide +kernel
theorem dX4_count_100 : decode cX4_count 100 = .ok (.aload_n 0, 1) := by decide +kernel
theorem dX4_count_101 : decode cX4_count 101 = .ok (.getfield 12, 3) := by decide +kernel
theorem dX4_count_104 : decode cX4_count 104 = .ok (.invokevirtual 184, 3) := by decide +kernel
theorem dX4_count_107 : decode cX4_count 107 = .ok (.ireturn, 1) := by decide +kernel
theorem dX4_count_108 : decode cX4_count 108 = .ok (.aload_n 0, 1) := by decide +kernel
theorem dX4_count_109 : decode cX4_count 109 = .ok (.getfield 12, 3) := by decide +kernel
theorem dX4_count_112 : decode cX4_count 112 = .ok (.invokevirtual 187, 3) := by decide +kernel
theorem dX4_count_115 : decode cX4_count 115 = .ok (.ireturn, 1) := by decide +kernel
theorem dX4_count_116 : decode cX4_count 116 = .ok (.aload_n 0, 1) := by decide +kernel
theorem dX4_count_117 : decode cX4_count 117 = .ok (.getfield 22, 3) := by decide +kernel
theorem dX4_count_120 : decode cX4_count 120 = .ok (.getfield 138, 3) := by decide +kernel
theorem dX4_count_123 : decode cX4_count 123 = .ok (.ireturn, 1) := by decide +kernel
theorem dX4_count_124 : decode cX4_count 124 = .ok (.new 127, 3) := by decide +kernel
theorem dX4_count_127 : decode cX4_count 127 = .ok (.dup, 1) := by decide +kernel
theorem dX4_count_128 : decode cX4_count 128 = .ok (.ldc 190, 2) := by decide +kernel
theorem dX4_count_130 : decode cX4_count 130 = .ok (.invokespecial 131, 3) := by decide +kernel
theorem dX4_count_133 : decode cX4_count 133 = .ok (.athrow, 1) := by decide +kernel
set_option maxRecDepth 20000 in
theorem ggX4_pointing_X4_requireDirection : GoodIn wsX4_pointing wsX4_requireDirection := goodIn_ca (goodIn_r _ [5, 6, 7, 4, 8, 9, 10] (by decide +kernel) (by decide +kernel)) (goodIn_sub (fun _ h => List.mem_cons_of_mem _ (List.mem_append_right _ h)) (by decide +kernel))
set_option maxRecDepth 20000 in
theorem gX4_pointing_X4_requireDirection : GoodIn wsX4_pointing (va_wsS RX4 37 yX4_requireDirection wsX4_requireDirection) := goodIn_app (goodIn_of _ (by decide +kernel)) ggX4_pointing_X4_requireDirection
set_option maxRecDepth 20000 in
theorem ggX4_pointing_X2_pointingCount : GoodIn wsX4_pointing wsX2_pointingCount := goodIn_r _ [15, 16, 21, 22, 23, 24, 25, 26, 27, 28, 29, 30, 31, 32, 33] (by decide +kernel) (by decide +kernel)
set_option maxRecDepth 20000 in
theorem gX4_pointing_X2_pointingCount : GoodIn wsX4_pointing (wsV RX4 192 RX2 yX2_pointingCount wsX2_pointingCount) := goodIn_app (goodIn_of _ (by decide +kernel)) ggX4_pointing_X2_pointingCount
theorem dX4_pointing_0 : decode cX4_pointing 0 = .ok (.iload_n 1, 1) := by decide +kernel
theorem dX4_pointing_1 : decode cX4_pointing 1 = .ok (.invokestatic 37, 3) := by decide +kernel
theorem dX4_pointing_4 : decode cX4_pointing 4 = .ok (.aload_n 0, 1) := by decide +kernel
theorem dX4_pointing_5 : decode cX4_pointing 5 = .ok (.getfield 12, 3) := by decide +kernel
theorem dX4_pointing_8 : decode cX4_pointing 8 = .ok (.iload_n 1, 1) := by decide +kernel
theorem dX4_pointing_9 : decode cX4_pointing 9 = .ok (.invokevirtual 192, 3) := by decide +kernel
theorem dX4_pointing_12 : decode cX4_pointing 12 = .ok (.ireturn, 1) := by decide +kernel
set_option maxRecDepth 20000 in
theorem ggX4_restsIn_X2_copyFrom : GoodIn wsX4_restsIn wsX2_copyFrom := goodIn_r _ [7, 8, 9, 10, 11, 12, 13, 14, 15, 16, 17, 18, 19, 20, 60, 61, 62, 63, 64, 65, 66, 67, 68, 69, 70, 71, 72] (by decide +kernel) (by decide +kernel)
set_option maxRecDepth 20000 in
theorem gX4_restsIn_X2_copyFrom : GoodIn wsX4_restsIn (wsV RX4 195 RX2 yX2_copyFrom wsX2_copyFrom) := goodIn_app (goodIn_of _ (by decide +kernel)) ggX4_restsIn_X2_copyFrom
set_option maxRecDepth 20000 in
theorem ggX4_restsIn_X2_letGoBy : GoodIn wsX4_restsIn wsX2_letGoBy := goodIn_r _ [24, 20, 25, 26, 27, 6, 28, 8, 29, 30, 31, 32, 10, 15, 16, 9, 33, 34, 35, 36, 37, 38, 39, 40, 41, 13, 14, 42, 43, 44, 45, 17, 46, 47, 48, 49, 50, 51, 52, 53, 54, 55, 60, 61, 62, 63, 64, 65, 66, 67, 68, 69, 70, 71, 72] (by decide +kernel) (by decide +kernel)
set_option maxRecDepth 20000 in
theorem gX4_restsIn_X2_letGoBy : GoodIn wsX4_restsIn (wsV RX4 108 RX2 yX2_letGoBy wsX2_letGoBy) := goodIn_app (goodIn_of _ (by decide +kernel)) ggX4_restsIn_X2_letGoBy
theorem dX4_restsIn_0 : decode cX4_restsIn 0 = .ok (.aload_n 0, 1) := by decide +kernel
theorem dX4_restsIn_1 : decode cX4_restsIn 1 = .ok (.getfield 16, 3) := by decide +kernel
theorem dX4_restsIn_4 : decode cX4_restsIn 4 = .ok (.aload_n 0, 1) := by decide +kernel
theorem dX4_restsIn_5 : decode cX4_restsIn 5 = .ok (.getfield 12, 3) := by decide +kernel
theorem dX4_restsIn_8 : decode cX4_restsIn 8 = .ok (.invokevirtual 195, 3) := by decide +kernel
theorem dX4_restsIn_11 : decode cX4_restsIn 11 = .ok (.iconst 0, 1) := by decide +kernel
theorem dX4_restsIn_12 : decode cX4_restsIn 12 = .ok (.istore_n 1, 1) := by decide +kernel
theorem dX4_restsIn_13 : decode cX4_restsIn 13 = .ok (.iload_n 1, 1) := by decide +kernel
theorem dX4_restsIn_14 : decode cX4_restsIn 14 = .ok (.bipush 100, 2) := by decide +kernel
theorem dX4_restsIn_16 : decode cX4_restsIn 16 = .ok (.if_icmp .gt 22, 3) := by decide +kernel
theorem dX4_restsIn_19 : decode cX4_restsIn 19 = .ok (.aload_n 0, 1) := by decide +kernel
theorem dX4_restsIn_20 : decode cX4_restsIn 20 = .ok (.getfield 16, 3) := by decide +kernel
theorem dX4_restsIn_23 : decode cX4_restsIn 23 = .ok (.iconst 1, 1) := by decide +kernel
theorem dX4_restsIn_24 : decode cX4_restsIn 24 = .ok (.invokevirtual 108, 3) := by decide +kernel
theorem dX4_restsIn_27 : decode cX4_restsIn 27 = .ok (.ifCond .ne 5, 3) := by decide +kernel
theorem dX4_restsIn_30 : decode cX4_restsIn 30 = .ok (.iload_n 1, 1) := by decide +kernel
theorem dX4_restsIn_31 : decode cX4_restsIn 31 = .ok (.ireturn, 1) := by decide +kernel
theorem dX4_restsIn_32 : decode cX4_restsIn 32 = .ok (.iinc 1 1, 3) := by decide +kernel
theorem dX4_restsIn_35 : decode cX4_restsIn 35 = .ok (.goto (-22), 3) := by decide +kernel
theorem dX4_restsIn_38 : decode cX4_restsIn 38 = .ok (.iconst (-1), 1) := by decide +kernel
theorem dX4_restsIn_39 : decode cX4_restsIn 39 = .ok (.ireturn, 1) := by decide +kernel
set_option maxRecDepth 20000 in
theorem ggX4_points_X4_requireCell : GoodIn wsX4_points wsX4_requireCell := goodIn_ca (goodIn_r _ [6, 7, 8] (by decide +kernel) (by decide +kernel)) (goodIn_sub (fun _ h => List.mem_cons_of_mem _ (List.mem_append_left _ (List.mem_append_right _ h))) (by decide +kernel))
set_option maxRecDepth 20000 in
theorem gX4_points_X4_requireCell : GoodIn wsX4_points (va_wsS RX4 33 yX4_requireCell wsX4_requireCell) := goodIn_app (goodIn_of _ (by decide +kernel)) ggX4_points_X4_requireCell
set_option maxRecDepth 20000 in
theorem ggX4_points_X4_requireBetween : GoodIn wsX4_points wsX4_requireBetween := goodIn_ca (goodIn_r _ [11, 12, 13] (by decide +kernel) (by decide +kernel)) (goodIn_sub (fun _ h => List.mem_cons_of_mem _ (List.mem_append_right _ h)) (by decide +kernel))
set_option maxRecDepth 20000 in
theorem gX4_points_X4_requireBetween : GoodIn wsX4_points (va_wsS RX4 51 yX4_requireBetween wsX4_requireBetween) := goodIn_app (goodIn_of _ (by decide +kernel)) ggX4_points_X4_requireBetween
set_option maxRecDepth 20000 in
theorem ggX4_points_X2_copyFrom : GoodIn wsX4_points wsX2_copyFrom := goodIn_r _ [18, 19, 20, 21, 22, 23, 24, 25, 26, 27, 28, 29, 30, 31, 70, 71, 72, 73, 74, 75, 76, 77, 78, 79, 80, 81, 82] (by decide +kernel) (by decide +kernel)
set_option maxRecDepth 20000 in
theorem gX4_points_X2_copyFrom : GoodIn wsX4_points (wsV RX4 195 RX2 yX2_copyFrom wsX2_copyFrom) := goodIn_app (goodIn_of _ (by decide +kernel)) ggX4_points_X2_copyFrom
set_option maxRecDepth 20000 in
theorem ggX4_points_X2_letGoBy : GoodIn wsX4_points wsX2_letGoBy := goodIn_r _ [35, 31, 36, 37, 38, 17, 39, 19, 40, 41, 42, 43, 21, 26, 27, 20, 44, 5, 45, 46, 47, 48, 49, 50, 51, 24, 25, 52, 53, 54, 55, 28, 56, 57, 58, 59, 60, 61, 62, 63, 64, 65, 70, 71, 72, 73, 74, 75, 76, 77, 78, 79, 80, 81, 82] (by decide +kernel) (by decide +kernel)
set_option maxRecDepth 20000 in
theorem gX4_points_X2_letGoBy : GoodIn wsX4_points (wsV RX4 108 RX2 yX2_letGoBy wsX2_letGoBy) := goodIn_app (goodIn_of _ (by decide +kernel)) ggX4_points_X2_letGoBy
theorem dX4_points_0 : decode cX4_points 0 = .ok (.iload_n 1, 1) := by decide +kernel
theorem dX4_points_1 : decode cX4_points 1 = .ok (.invokestatic 33, 3) := by decide +kernel
theorem dX4_points_4 : decode cX4_points 4 = .ok (.iload_n 2, 1) := by decide +kernel
theorem dX4_points_5 : decode cX4_points 5 = .ok (.iconst 0, 1) := by decide +kernel
theorem dX4_points_6 : decode cX4_points 6 = .ok (.bipush 100, 2) := by decide +kernel
theorem dX4_points_8 : decode cX4_points 8 = .ok (.invokestatic 51, 3) := by decide +kernel
theorem dX4_points_11 : decode cX4_points 11 = .ok (.aload_n 0, 1) := by decide +kernel
theorem dX4_points_12 : decode cX4_points 12 = .ok (.getfield 16, 3) := by decide +kernel
theorem dX4_points_15 : decode cX4_points 15 = .ok (.aload_n 0, 1) := by decide +kernel
theorem dX4_points_16 : decode cX4_points 16 = .ok (.getfield 12, 3) := by decide +kernel
theorem dX4_points_19 : decode cX4_points 19 = .ok (.invokevirtual 195, 3) := by decide +kernel
theorem dX4_points_22 : decode cX4_points 22 = .ok (.aload_n 0, 1) := by decide +kernel
theorem dX4_points_23 : decode cX4_points 23 = .ok (.getfield 16, 3) := by decide +kernel
theorem dX4_points_26 : decode cX4_points 26 = .ok (.iload_n 2, 1) := by decide +kernel
theorem dX4_points_27 : decode cX4_points 27 = .ok (.invokevirtual 108, 3) := by decide +kernel
theorem dX4_points_30 : decode cX4_points 30 = .ok (.pop, 1) := by decide +kernel
theorem dX4_points_31 : decode cX4_points 31 = .ok (.aload_n 0, 1) := by decide +kernel
theorem dX4_points_32 : decode cX4_points 32 = .ok (.getfield 16, 3) := by decide +kernel
theorem dX4_points_35 : decode cX4_points 35 = .ok (.getfield 44, 3) := by decide +kernel
theorem dX4_points_38 : decode cX4_points 38 = .ok (.iload_n 1, 1) := by decide +kernel
theorem dX4_points_39 : decode cX4_points 39 = .ok (.iaload, 1) := by decide +kernel
theorem dX4_points_40 : decode cX4_points 40 = .ok (.ireturn, 1) := by decide +kernel
set_option maxRecDepth 20000 in
theorem ggX4_obedience_X2_aimedCount : GoodIn wsX4_obedience wsX2_aimedCount := goodIn_r _ [6, 7, 8, 9, 5, 10, 11, 12, 13, 14, 15, 25, 26, 27, 28, 29, 30, 31, 32, 33, 34, 35, 36, 37] (by decide +kernel) (by decide +kernel)
set_option maxRecDepth 20000 in
theorem gX4_obedience_X2_aimedCount : GoodIn wsX4_obedience (wsV RX4 206 RX2 yX2_aimedCount wsX2_aimedCount) := goodIn_app (goodIn_of _ (by decide +kernel)) ggX4_obedience_X2_aimedCount
set_option maxRecDepth 20000 in
theorem ggX4_obedience_X2_obeyingCount : GoodIn wsX4_obedience wsX2_obeyingCount := goodIn_r _ [19, 20, 7, 8, 9, 5, 10, 11, 12, 13, 14, 15, 25, 26, 27, 28, 29, 30, 31, 32, 33, 34, 35, 36, 37] (by decide +kernel) (by decide +kernel)
set_option maxRecDepth 20000 in
theorem gX4_obedience_X2_obeyingCount : GoodIn wsX4_obedience (wsV RX4 184 RX2 yX2_obeyingCount wsX2_obeyingCount) := goodIn_app (goodIn_of _ (by decide +kernel)) ggX4_obedience_X2_obeyingCount
theorem dX4_obedience_0 : decode cX4_obedience 0 = .ok (.aload_n 0, 1) := by decide +kernel
theorem dX4_obedience_1 : decode cX4_obedience 1 = .ok (.getfield 12, 3) := by decide +kernel
theorem dX4_obedience_4 : decode cX4_obedience 4 = .ok (.invokevirtual 206, 3) := by decide +kernel
theorem dX4_obedience_7 : decode cX4_obedience 7 = .ok (.istore_n 1, 1) := by decide +kernel
theorem dX4_obedience_8 : decode cX4_obedience 8 = .ok (.iload_n 1, 1) := by decide +kernel
theorem dX4_obedience_9 : decode cX4_obedience 9 = .ok (.ifCond .ne 5, 3) := by decide +kernel
theorem dX4_obedience_12 : decode cX4_obedience 12 = .ok (.dconst 1, 1) := by decide +kernel
theorem dX4_obedience_13 : decode cX4_obedience 13 = .ok (.dreturn, 1) := by decide +kernel
theorem dX4_obedience_14 : decode cX4_obedience 14 = .ok (.aload_n 0, 1) := by decide +kernel
theorem dX4_obedience_15 : decode cX4_obedience 15 = .ok (.getfield 12, 3) := by decide +kernel
theorem dX4_obedience_18 : decode cX4_obedience 18 = .ok (.invokevirtual 184, 3) := by decide +kernel
theorem dX4_obedience_21 : decode cX4_obedience 21 = .ok (.i2d, 1) := by decide +kernel
theorem dX4_obedience_22 : decode cX4_obedience 22 = .ok (.iload_n 1, 1) := by decide +kernel
theorem dX4_obedience_23 : decode cX4_obedience 23 = .ok (.i2d, 1) := by decide +kernel
theorem dX4_obedience_24 : decode cX4_obedience 24 = .ok (.ddiv, 1) := by decide +kernel
theorem dX4_obedience_25 : decode cX4_obedience 25 = .ok (.dreturn, 1) := by decide +kernel
theorem dX4_exchange_0 : decode cX4_exchange 0 = .ok (.aload_n 0, 1) := by decide +kernel
theorem dX4_exchange_1 : decode cX4_exchange 1 = .ok (.iload_n 1, 1) := by decide +kernel
theorem dX4_exchange_2 : decode cX4_exchange 2 = .ok (.iaload, 1) := by decide +kernel
theorem dX4_exchange_3 : decode cX4_exchange 3 = .ok (.istore_n 3, 1) := by decide +kernel
theorem dX4_exchange_4 : decode cX4_exchange 4 = .ok (.aload_n 0, 1) := by decide +kernel
theorem dX4_exchange_5 : decode cX4_exchange 5 = .ok (.iload_n 1, 1) := by decide +kernel
theorem dX4_exchange_6 : decode cX4_exchange 6 = .ok (.aload_n 0, 1) := by decide +kernel
theorem dX4_exchange_7 : decode cX4_exchange 7 = .ok (.iload_n 2, 1) := by decide +kernel
theorem dX4_exchange_8 : decode cX4_exchange 8 = .ok (.iaload, 1) := by decide +kernel
theorem dX4_exchange_9 : decode cX4_exchange 9 = .ok (.iastore, 1) := by decide +kernel
theorem dX4_exchange_10 : decode cX4_exchange 10 = .ok (.aload_n 0, 1) := by decide +kernel
theorem dX4_exchange_11 : decode cX4_exchange 11 = .ok (.iload_n 2, 1) := by decide +kernel
theorem dX4_exchange_12 : decode cX4_exchange 12 = .ok (.iload_n 3, 1) := by decide +kernel
theorem dX4_exchange_13 : decode cX4_exchange 13 = .ok (.iastore, 1) := by decide +kernel
theorem dX4_exchange_14 : decode cX4_exchange 14 = .ok (.return_, 1) := by decide +kernel
theorem dX4_requireCell_0 : decode cX4_requireCell 0 = .ok (.iload_n 0, 1) := by decide +kernel
theorem dX4_requireCell_1 : decode cX4_requireCell 1 = .ok (.ifCond .lt 9, 3) := by decide +kernel
theorem dX4_requireCell_4 : decode cX4_requireCell 4 = .ok (.iload_n 0, 1) := by decide +kernel
theorem dX4_requireCell_5 : decode cX4_requireCell 5 = .ok (.bipush 36, 2) := by decide +kernel
theorem dX4_requireCell_7 : decode cX4_requireCell 7 = .ok (.if_icmp .lt 14, 3) := by decide +kernel
theorem dX4_requireCell_10 : decode cX4_requireCell 10 = .ok (.new 275, 3) := by decide +kernel
theorem dX4_requireCell_13 : decode cX4_requireCell 13 = .ok (.dup, 1) := by decide +kernel
theorem dX4_requireCell_14 : decode cX4_requireCell 14 = .ok (.ldc_w 277, 3) := by decide +kernel
theorem dX4_requireCell_17 : decode cX4_requireCell 17 = .ok (.invokespecial 279, 3) := by decide +kernel
theorem dX4_requireCell_20 : decode cX4_requireCell 20 = .ok (.athrow, 1) := by decide +kernel
theorem dX4_requireCell_21 : decode cX4_requireCell 21 = .ok (.return_, 1) := by decide +kernel
theorem dX4_requireSetting_0 : decode cX4_requireSetting 0 = .ok (.iload_n 0, 1) := by decide +kernel
theorem dX4_requireSetting_1 : decode cX4_requireSetting 1 = .ok (.ifCond .lt 8, 3) := by decide +kernel
theorem dX4_requireSetting_4 : decode cX4_requireSetting 4 = .ok (.iload_n 0, 1) := by decide +kernel
theorem dX4_requireSetting_5 : decode cX4_requireSetting 5 = .ok (.iconst 3, 1) := by decide +kernel
theorem dX4_requireSetting_6 : decode cX4_requireSetting 6 = .ok (.if_icmp .lt 14, 3) := by decide +kernel
theorem dX4_requireSetting_9 : decode cX4_requireSetting 9 = .ok (.new 275, 3) := by decide +kernel
theorem dX4_requireSetting_12 : decode cX4_requireSetting 12 = .ok (.dup, 1) := by decide +kernel
theorem dX4_requireSetting_13 : decode cX4_requireSetting 13 = .ok (.ldc_w 280, 3) := by decide +kernel
theorem dX4_requireSetting_16 : decode cX4_requireSetting 16 = .ok (.invokespecial 279, 3) := by decide +kernel
theorem dX4_requireSetting_19 : decode cX4_requireSetting 19 = .ok (.athrow, 1) := by decide +kernel
theorem dX4_requireSetting_20 : decode cX4_requireSetting 20 = .ok (.return_, 1) := by decide +kernel
set_option maxRecDepth 20000 in
theorem ggX4_requireDirection_X4_requireBetween : GoodIn wsX4_requireDirection wsX4_requireBetween := goodIn_ca (goodIn_r _ [4, 5, 6] (by decide +kernel) (by decide +kernel)) (goodIn_sub (fun _ h => List.mem_cons_of_mem _ (List.mem_append_right _ h)) (by decide +kernel))
set_option maxRecDepth 20000 in
theorem gX4_requireDirection_X4_requireBetween : GoodIn wsX4_requireDirection (va_wsS RX4 51 yX4_requireBetween wsX4_requireBetween) := goodIn_app (goodIn_of _ (by decide +kernel)) ggX4_requireDirection_X4_requireBetween
theorem dX4_requireDirection_0 : decode cX4_requireDirection 0 = .ok (.iload_n 0, 1) := by decide +kernel
theorem dX4_requireDirection_1 : decode cX4_requireDirection 1 = .ok (.iconst 0, 1) := by decide +kernel
theorem dX4_requireDirection_2 : decode cX4_requireDirection 2 = .ok (.bipush 7, 2) := by decide +kernel
theorem dX4_requireDirection_4 : decode cX4_requireDirection 4 = .ok (.invokestatic 51, 3) := by decide +kernel
theorem dX4_requireDirection_7 : decode cX4_requireDirection 7 = .ok (.return_, 1) := by decide +kernel
theorem dX4_requireBetween_0 : decode cX4_requireBetween 0 = .ok (.iload_n 0, 1) := by decide +kernel
theorem dX4_requireBetween_1 : decode cX4_requireBetween 1 = .ok (.iload_n 1, 1) := by decide +kernel
theorem dX4_requireBetween_2 : decode cX4_requireBetween 2 = .ok (.if_icmp .lt 8, 3) := by decide +kernel
theorem dX4_requireBetween_5 : decode cX4_requireBetween 5 = .ok (.iload_n 0, 1) := by decide +kernel
theorem dX4_requireBetween_6 : decode cX4_requireBetween 6 = .ok (.iload_n 2, 1) := by decide +kernel
theorem dX4_requireBetween_7 : decode cX4_requireBetween 7 = .ok (.if_icmp .le 14, 3) := by decide +kernel
theorem dX4_requireBetween_10 : decode cX4_requireBetween 10 = .ok (.new 127, 3) := by decide +kernel
theorem dX4_requireBetween_13 : decode cX4_requireBetween 13 = .ok (.dup, 1) := by decide +kernel
theorem dX4_requireBetween_14 : decode cX4_requireBetween 14 = .ok (.ldc_w 282, 3) := by decide +kernel
theorem dX4_requireBetween_17 : decode cX4_requireBetween 17 = .ok (.invokespecial 131, 3) := by decide +kernel
theorem dX4_requireBetween_20 : decode cX4_requireBetween 20 = .ok (.athrow, 1) := by decide +kernel
theorem dX4_requireBetween_21 : decode cX4_requireBetween 21 = .ok (.return_, 1) := by decide +kernel
theorem dX4_across_0 : decode cX4_across 0 = .ok (.getstatic 284, 3) := by decide +kernel
theorem dX4_across_3 : decode cX4_across 3 = .ok (.iload_n 0, 1) := by decide +kernel
theorem dX4_across_4 : decode cX4_across 4 = .ok (.bipush 7, 2) := by decide +kernel
theorem dX4_across_6 : decode cX4_across 6 = .ok (.iand, 1) := by decide +kernel
theorem dX4_across_7 : decode cX4_across 7 = .ok (.iaload, 1) := by decide +kernel
theorem dX4_across_8 : decode cX4_across 8 = .ok (.ireturn, 1) := by decide +kernel
theorem dX4_down_0 : decode cX4_down 0 = .ok (.getstatic 287, 3) := by decide +kernel
theorem dX4_down_3 : decode cX4_down 3 = .ok (.iload_n 0, 1) := by decide +kernel
theorem dX4_down_4 : decode cX4_down 4 = .ok (.bipush 7, 2) := by decide +kernel
theorem dX4_down_6 : decode cX4_down 6 = .ok (.iand, 1) := by decide +kernel
theorem dX4_down_7 : decode cX4_down 7 = .ok (.iaload, 1) := by decide +kernel
theorem dX4_down_8 : decode cX4_down 8 = .ok (.ireturn, 1) := by decide +kernel
theorem dX4_aimOf_0 : decode cX4_aimOf 0 = .ok (.iload_n 0, 1) := by decide +kernel
theorem dX4_aimOf_1 : decode cX4_aimOf 1 = .ok (.ifCond .ge 8, 3) := by decide +kernel
theorem dX4_aimOf_4 : decode cX4_aimOf 4 = .ok (.iload_n 0, 1) := by decide +kernel
theorem dX4_aimOf_5 : decode cX4_aimOf 5 = .ok (.ineg, 1) := by decide +kernel
theorem dX4_aimOf_6 : decode cX4_aimOf 6 = .ok (.goto 4, 3) := by decide +kernel
theorem dX4_aimOf_9 : decode cX4_aimOf 9 = .ok (.iload_n 0, 1) := by decide +kernel
theorem dX4_aimOf_10 : decode cX4_aimOf 10 = .ok (.istore_n 2, 1) := by decide +kernel
theorem dX4_aimOf_11 : decode cX4_aimOf 11 = .ok (.iload_n 1, 1) := by decide +kernel
theorem dX4_aimOf_12 : decode cX4_aimOf 12 = .ok (.ifCond .ge 8, 3) := by decide +kernel
theorem dX4_aimOf_15 : decode cX4_aimOf 15 = .ok (.iload_n 1, 1) := by decide +kernel
theorem dX4_aimOf_16 : decode cX4_aimOf 16 = .ok (.ineg, 1) := by decide +kernel
theorem dX4_aimOf_17 : decode cX4_aimOf 17 = .ok (.goto 4, 3) := by decide +kernel
theorem dX4_aimOf_20 : decode cX4_aimOf 20 = .ok (.iload_n 1, 1) := by decide +kernel
theorem dX4_aimOf_21 : decode cX4_aimOf 21 = .ok (.istore_n 3, 1) := by decide +kernel
theorem dX4_aimOf_22 : decode cX4_aimOf 22 = .ok (.iload_n 2, 1) := by decide +kernel
theorem dX4_aimOf_23 : decode cX4_aimOf 23 = .ok (.ifCond .ne 9, 3) := by decide +kernel
theorem dX4_aimOf_26 : decode cX4_aimOf 26 = .ok (.iload_n 3, 1) := by decide +kernel
theorem dX4_aimOf_27 : decode cX4_aimOf 27 = .ok (.ifCond .ne 5, 3) := by decide +kernel
theorem dX4_aimOf_30 : decode cX4_aimOf 30 = .ok (.iconst (-1), 1) := by decide +kernel
theorem dX4_aimOf_31 : decode cX4_aimOf 31 = .ok (.ireturn, 1) := by decide +kernel
theorem dX4_aimOf_32 : decode cX4_aimOf 32 = .ok (.bipush 12, 2) := by decide +kernel
theorem dX4_aimOf_34 : decode cX4_aimOf 34 = .ok (.iload_n 3, 1) := by decide +kernel
theorem dX4_aimOf_35 : decode cX4_aimOf 35 = .ok (.imul, 1) := by decide +kernel
theorem dX4_aimOf_36 : decode cX4_aimOf 36 = .ok (.iconst 5, 1) := by decide +kernel
theorem dX4_aimOf_37 : decode cX4_aimOf 37 = .ok (.iload_n 2, 1) := by decide +kernel
theorem dX4_aimOf_38 : decode cX4_aimOf 38 = .ok (.imul, 1) := by decide +kernel
theorem dX4_aimOf_39 : decode cX4_aimOf 39 = .ok (.if_icmp .gt 13, 3) := by decide +kernel
theorem dX4_aimOf_42 : decode cX4_aimOf 42 = .ok (.iload_n 0, 1) := by decide +kernel
theorem dX4_aimOf_43 : decode cX4_aimOf 43 = .ok (.ifCond .le 7, 3) := by decide +kernel
theorem dX4_aimOf_46 : decode cX4_aimOf 46 = .ok (.iconst 0, 1) := by decide +kernel
theorem dX4_aimOf_47 : decode cX4_aimOf 47 = .ok (.goto 4, 3) := by decide +kernel
theorem dX4_aimOf_50 : decode cX4_aimOf 50 = .ok (.iconst 4, 1) := by decide +kernel
theorem dX4_aimOf_51 : decode cX4_aimOf 51 = .ok (.ireturn, 1) := by decide +kernel
theorem dX4_aimOf_52 : decode cX4_aimOf 52 = .ok (.bipush 12, 2) := by decide +kernel
theorem dX4_aimOf_54 : decode cX4_aimOf 54 = .ok (.iload_n 2, 1) := by decide +kernel
theorem dX4_aimOf_55 : decode cX4_aimOf 55 = .ok (.imul, 1) := by decide +kernel
theorem dX4_aimOf_56 : decode cX4_aimOf 56 = .ok (.iconst 5, 1) := by decide +kernel
theorem dX4_aimOf_57 : decode cX4_aimOf 57 = .ok (.iload_n 3, 1) := by decide +kernel
theorem dX4_aimOf_58 : decode cX4_aimOf 58 = .ok (.imul, 1) := by decide +kernel
theorem dX4_aimOf_59 : decode cX4_aimOf 59 = .ok (.if_icmp .gt 14, 3) := by decide +kernel
theorem dX4_aimOf_62 : decode cX4_aimOf 62 = .ok (.iload_n 1, 1) := by decide +kernel
theorem dX4_aimOf_63 : decode cX4_aimOf 63 = .ok (.ifCond .le 7, 3) := by decide +kernel
theorem dX4_aimOf_66 : decode cX4_aimOf 66 = .ok (.iconst 2, 1) := by decide +kernel
theorem dX4_aimOf_67 : decode cX4_aimOf 67 = .ok (.goto 5, 3) := by decide +kernel
theorem dX4_aimOf_70 : decode cX4_aimOf 70 = .ok (.bipush 6, 2) := by decide +kernel
theorem dX4_aimOf_72 : decode cX4_aimOf 72 = .ok (.ireturn, 1) := by decide +kernel
theorem dX4_aimOf_73 : decode cX4_aimOf 73 = .ok (.iload_n 1, 1) := by decide +kernel
theorem dX4_aimOf_74 : decode cX4_aimOf 74 = .ok (.ifCond .le 13, 3) := by decide +kernel
theorem dX4_aimOf_77 : decode cX4_aimOf 77 = .ok (.iload_n 0, 1) := by decide +kernel
theorem dX4_aimOf_78 : decode cX4_aimOf 78 = .ok (.ifCond .le 7, 3) := by decide +kernel
theorem dX4_aimOf_81 : decode cX4_aimOf 81 = .ok (.iconst 1, 1) := by decide +kernel
theorem dX4_aimOf_82 : decode cX4_aimOf 82 = .ok (.goto 4, 3) := by decide +kernel
theorem dX4_aimOf_85 : decode cX4_aimOf 85 = .ok (.iconst 3, 1) := by decide +kernel
theorem dX4_aimOf_86 : decode cX4_aimOf 86 = .ok (.ireturn, 1) := by decide +kernel
theorem dX4_aimOf_87 : decode cX4_aimOf 87 = .ok (.iload_n 0, 1) := by decide +kernel
theorem dX4_aimOf_88 : decode cX4_aimOf 88 = .ok (.ifCond .le 8, 3) := by decide +kernel
theorem dX4_aimOf_91 : decode cX4_aimOf 91 = .ok (.bipush 7, 2) := by decide +kernel
theorem dX4_aimOf_93 : decode cX4_aimOf 93 = .ok (.goto 4, 3) := by decide +kernel
theorem dX4_aimOf_96 : decode cX4_aimOf 96 = .ok (.iconst 5, 1) := by decide +kernel
theorem dX4_aimOf_97 : decode cX4_aimOf 97 = .ok (.ireturn, 1) := by decide +kernel
set_option maxRecDepth 20000 in
theorem ggX4_pull_X4_across : GoodIn wsX4_pull wsX4_across := goodIn_r _ [4, 5] (by decide +kernel) (by decide +kernel)
set_option maxRecDepth 20000 in
theorem gX4_pull_X4_across : GoodIn wsX4_pull (va_wsS RX4 290 yX4_across wsX4_across) := goodIn_app (goodIn_of _ (by decide +kernel)) ggX4_pull_X4_across
set_option maxRecDepth 20000 in
theorem ggX4_pull_X4_down : GoodIn wsX4_pull wsX4_down := goodIn_r _ [8, 9] (by decide +kernel) (by decide +kernel)
set_option maxRecDepth 20000 in
theorem gX4_pull_X4_down : GoodIn wsX4_pull (va_wsS RX4 293 yX4_down wsX4_down) := goodIn_app (goodIn_of _ (by decide +kernel)) ggX4_pull_X4_down
theorem dX4_pull_0 : decode cX4_pull 0 = .ok (.iload_n 3, 1) := by decide +kernel
theorem dX4_pull_1 : decode cX4_pull 1 = .ok (.bipush 6, 2) := by decide +kernel
theorem dX4_pull_3 : decode cX4_pull 3 = .ok (.irem, 1) := by decide +kernel
theorem dX4_pull_4 : decode cX4_pull 4 = .ok (.iload_n 0, 1) := by decide +kernel
theorem dX4_pull_5 : decode cX4_pull 5 = .ok (.bipush 6, 2) := by decide +kernel
theorem dX4_pull_7 : decode cX4_pull 7 = .ok (.irem, 1) := by decide +kernel
theorem dX4_pull_8 : decode cX4_pull 8 = .ok (.isub, 1) := by decide +kernel
theorem dX4_pull_9 : decode cX4_pull 9 = .ok (.istore 4, 2) := by decide +kernel
theorem dX4_pull_11 : decode cX4_pull 11 = .ok (.iload_n 3, 1) := by decide +kernel
theorem dX4_pull_12 : decode cX4_pull 12 = .ok (.bipush 6, 2) := by decide +kernel
theorem dX4_pull_14 : decode cX4_pull 14 = .ok (.idiv, 1) := by decide +kernel
theorem dX4_pull_15 : decode cX4_pull 15 = .ok (.iload_n 0, 1) := by decide +kernel
theorem dX4_pull_16 : decode cX4_pull 16 = .ok (.bipush 6, 2) := by decide +kernel
theorem dX4_pull_18 : decode cX4_pull 18 = .ok (.idiv, 1) := by decide +kernel
theorem dX4_pull_19 : decode cX4_pull 19 = .ok (.isub, 1) := by decide +kernel
theorem dX4_pull_20 : decode cX4_pull 20 = .ok (.istore 5, 2) := by decide +kernel
theorem dX4_pull_22 : decode cX4_pull 22 = .ok (.iload 4, 2) := by decide +kernel
theorem dX4_pull_24 : decode cX4_pull 24 = .ok (.iload 4, 2) := by decide +kernel
theorem dX4_pull_26 : decode cX4_pull 26 = .ok (.imul, 1) := by decide +kernel
theorem dX4_pull_27 : decode cX4_pull 27 = .ok (.iload 5, 2) := by decide +kernel
theorem dX4_pull_29 : decode cX4_pull 29 = .ok (.iload 5, 2) := by decide +kernel
theorem dX4_pull_31 : decode cX4_pull 31 = .ok (.imul, 1) := by decide +kernel
theorem dX4_pull_32 : decode cX4_pull 32 = .ok (.iadd, 1) := by decide +kernel
theorem dX4_pull_33 : decode cX4_pull 33 = .ok (.istore 6, 2) := by decide +kernel
theorem dX4_pull_35 : decode cX4_pull 35 = .ok (.iload 6, 2) := by decide +kernel
theorem dX4_pull_37 : decode cX4_pull 37 = .ok (.ifCond .ne 5, 3) := by decide +kernel
theorem dX4_pull_40 : decode cX4_pull 40 = .ok (.iconst 0, 1) := by decide +kernel
theorem dX4_pull_41 : decode cX4_pull 41 = .ok (.ireturn, 1) := by decide +kernel
theorem dX4_pull_42 : decode cX4_pull 42 = .ok (.iload_n 1, 1) := by decide +kernel
theorem dX4_pull_43 : decode cX4_pull 43 = .ok (.invokestatic 290, 3) := by decide +kernel
theorem dX4_pull_46 : decode cX4_pull 46 = .ok (.istore 7, 2) := by decide +kernel
theorem dX4_pull_48 : decode cX4_pull 48 = .ok (.iload_n 1, 1) := by decide +kernel
theorem dX4_pull_49 : decode cX4_pull 49 = .ok (.invokestatic 293, 3) := by decide +kernel
theorem dX4_pull_52 : decode cX4_pull 52 = .ok (.istore 8, 2) := by decide +kernel
theorem dX4_pull_54 : decode cX4_pull 54 = .ok (.iload_n 2, 1) := by decide +kernel
theorem dX4_pull_55 : decode cX4_pull 55 = .ok (.bipush 100, 2) := by decide +kernel
theorem dX4_pull_57 : decode cX4_pull 57 = .ok (.imul, 1) := by decide +kernel
theorem dX4_pull_58 : decode cX4_pull 58 = .ok (.iload 6, 2) := by decide +kernel
theorem dX4_pull_60 : decode cX4_pull 60 = .ok (.idiv, 1) := by decide +kernel
theorem dX4_pull_61 : decode cX4_pull 61 = .ok (.istore 9, 2) := by decide +kernel
theorem dX4_pull_63 : decode cX4_pull 63 = .ok (.iload 4, 2) := by decide +kernel
theorem dX4_pull_65 : decode cX4_pull 65 = .ok (.iload 7, 2) := by decide +kernel
theorem dX4_pull_67 : decode cX4_pull 67 = .ok (.imul, 1) := by decide +kernel
theorem dX4_pull_68 : decode cX4_pull 68 = .ok (.iload 5, 2) := by decide +kernel
theorem dX4_pull_70 : decode cX4_pull 70 = .ok (.iload 8, 2) := by decide +kernel
theorem dX4_pull_72 : decode cX4_pull 72 = .ok (.imul, 1) := by decide +kernel
theorem dX4_pull_73 : decode cX4_pull 73 = .ok (.iadd, 1) := by decide +kernel
theorem dX4_pull_74 : decode cX4_pull 74 = .ok (.istore 10, 2) := by decide +kernel
theorem dX4_pull_76 : decode cX4_pull 76 = .ok (.iconst 2, 1) := by decide +kernel
theorem dX4_pull_77 : decode cX4_pull 77 = .ok (.iload 10, 2) := by decide +kernel
theorem dX4_pull_79 : decode cX4_pull 79 = .ok (.imul, 1) := by decide +kernel
theorem dX4_pull_80 : decode cX4_pull 80 = .ok (.iload 10, 2) := by decide +kernel
theorem dX4_pull_82 : decode cX4_pull 82 = .ok (.imul, 1) := by decide +kernel
theorem dX4_pull_83 : decode cX4_pull 83 = .ok (.iload 6, 2) := by decide +kernel
theorem dX4_pull_85 : decode cX4_pull 85 = .ok (.iload 7, 2) := by decide +kernel
theorem dX4_pull_87 : decode cX4_pull 87 = .ok (.iload 7, 2) := by decide +kernel
theorem dX4_pull_89 : decode cX4_pull 89 = .ok (.imul, 1) := by decide +kernel
theorem dX4_pull_90 : decode cX4_pull 90 = .ok (.iload 8, 2) := by decide +kernel
theorem dX4_pull_92 : decode cX4_pull 92 = .ok (.iload 8, 2) := by decide +kernel
theorem dX4_pull_94 : decode cX4_pull 94 = .ok (.imul, 1) := by decide +kernel
theorem dX4_pull_95 : decode cX4_pull 95 = .ok (.iadd, 1) := by decide +kernel
theorem dX4_pull_96 : decode cX4_pull 96 = .ok (.imul, 1) := by decide +kernel
theorem dX4_pull_97 : decode cX4_pull 97 = .ok (.if_icmp .lt 7, 3) := by decide +kernel
theorem dX4_pull_100 : decode cX4_pull 100 = .ok (.iconst 1, 1) := by decide +kernel
theorem dX4_pull_101 : decode cX4_pull 101 = .ok (.goto 4, 3) := by decide +kernel
theorem dX4_pull_104 : decode cX4_pull 104 = .ok (.iconst 0, 1) := by decide +kernel
theorem dX4_pull_105 : decode cX4_pull 105 = .ok (.istore 11, 2) := by decide +kernel
theorem dX4_pull_107 : decode cX4_pull 107 = .ok (.iload 11, 2) := by decide +kernel
theorem dX4_pull_109 : decode cX4_pull 109 = .ok (.ifCond .eq 8, 3) := by decide +kernel
theorem dX4_pull_112 : decode cX4_pull 112 = .ok (.iload 9, 2) := by decide +kernel
theorem dX4_pull_114 : decode cX4_pull 114 = .ok (.goto 8, 3) := by decide +kernel
theorem dX4_pull_117 : decode cX4_pull 117 = .ok (.iload 9, 2) := by decide +kernel
theorem dX4_pull_119 : decode cX4_pull 119 = .ok (.iconst 2, 1) := by decide +kernel
theorem dX4_pull_120 : decode cX4_pull 120 = .ok (.idiv, 1) := by decide +kernel
theorem dX4_pull_121 : decode cX4_pull 121 = .ok (.ineg, 1) := by decide +kernel
theorem dX4_pull_122 : decode cX4_pull 122 = .ok (.ireturn, 1) := by decide +kernel
theorem dX4_ahead_0 : decode cX4_ahead 0 = .ok (.iload_n 1, 1) := by decide +kernel
theorem dX4_ahead_1 : decode cX4_ahead 1 = .ok (.iload_n 0, 1) := by decide +kernel
theorem dX4_ahead_2 : decode cX4_ahead 2 = .ok (.isub, 1) := by decide +kernel
theorem dX4_ahead_3 : decode cX4_ahead 3 = .ok (.bipush 7, 2) := by decide +kernel
theorem dX4_ahead_5 : decode cX4_ahead 5 = .ok (.iand, 1) := by decide +kernel
