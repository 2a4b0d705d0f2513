theorem dL_low_0 : decode cL_low 0 = .ok (.iload_n 0, 1) := by decide +kernel
theorem dL_low_1 : decode cL_low 1 = .ok (.ldc 7, 2) := by decide +kernel
theorem dL_low_3 : decode cL_low 3 = .ok (.iand, 1) := by decide +kernel
theorem dL_low_4 : decode cL_low 4 = .ok (.iload_n 1, 1) := by decide +kernel
theorem dL_low_5 : decode cL_low 5 = .ok (.irem, 1) := by decide +kernel
theorem dL_low_6 : decode cL_low 6 = .ok (.ireturn, 1) := by decide +kernel
theorem dL_cell_0 : decode cL_cell 0 = .ok (.iload_n 1, 1) := by decide +kernel
theorem dL_cell_1 : decode cL_cell 1 = .ok (.aload_n 0, 1) := by decide +kernel
theorem dL_cell_2 : decode cL_cell 2 = .ok (.arraylength, 1) := by decide +kernel
theorem dL_cell_3 : decode cL_cell 3 = .ok (.if_icmp .ge 9, 3) := by decide +kernel
theorem dL_cell_6 : decode cL_cell 6 = .ok (.aload_n 0, 1) := by decide +kernel
theorem dL_cell_7 : decode cL_cell 7 = .ok (.iload_n 1, 1) := by decide +kernel
theorem dL_cell_8 : decode cL_cell 8 = .ok (.iaload, 1) := by decide +kernel
theorem dL_cell_9 : decode cL_cell 9 = .ok (.goto 11, 3) := by decide +kernel
theorem dL_cell_12 : decode cL_cell 12 = .ok (.ldc 8, 2) := by decide +kernel
theorem dL_cell_14 : decode cL_cell 14 = .ok (.iload_n 1, 1) := by decide +kernel
theorem dL_cell_15 : decode cL_cell 15 = .ok (.imul, 1) := by decide +kernel
theorem dL_cell_16 : decode cL_cell 16 = .ok (.sipush 977, 3) := by decide +kernel
theorem dL_cell_19 : decode cL_cell 19 = .ok (.iadd, 1) := by decide +kernel
theorem dL_cell_20 : decode cL_cell 20 = .ok (.ireturn, 1) := by decide +kernel
theorem dL_size_0 : decode cL_size 0 = .ok (.iload_n 0, 1) := by decide +kernel
theorem dL_size_1 : decode cL_size 1 = .ok (.ifCond .ge 8, 3) := by decide +kernel
theorem dL_size_4 : decode cL_size 4 = .ok (.iload_n 0, 1) := by decide +kernel
theorem dL_size_5 : decode cL_size 5 = .ok (.ineg, 1) := by decide +kernel
theorem dL_size_6 : decode cL_size 6 = .ok (.goto 4, 3) := by decide +kernel
theorem dL_size_9 : decode cL_size 9 = .ok (.iload_n 0, 1) := by decide +kernel
theorem dL_size_10 : decode cL_size 10 = .ok (.ireturn, 1) := by decide +kernel
set_option maxRecDepth 20000 in
theorem ggL_bar_X4_bar : GoodIn wsL_bar wsX4_bar := goodIn_ca (goodIn_ca (goodIn_ca (goodIn_r _ [6, 7, 8, 9, 10, 11, 12, 5, 13, 14, 15, 16, 17, 18, 19, 20, 21, 22, 23, 24, 25, 26, 27, 28, 29, 30, 31, 32, 33, 34, 35, 36, 37, 38, 39, 40, 41, 42, 43, 44, 45, 46, 47, 48, 49, 50, 51, 52, 53, 54, 55, 56, 57, 58, 59, 60, 61, 62, 63, 64, 65, 66, 67, 68, 69, 70, 71, 72, 73, 74, 75, 76, 77, 78, 79, 80, 81, 82, 83, 84, 85, 86, 87, 88, 89, 90, 91, 92, 93, 94, 95, 96, 97, 98, 99, 100, 101, 102, 103, 104, 105, 106, 107, 108, 109, 110, 111, 112] (by decide +kernel) (by decide +kernel)) (goodIn_sub (fun _ h => List.mem_cons_of_mem _ (List.mem_append_left _ (List.mem_append_left _ (List.mem_append_right _ h)))) (by decide +kernel))) (goodIn_sub (fun _ h => List.mem_cons_of_mem _ (List.mem_append_left _ (List.mem_append_right _ h))) (by decide +kernel))) (goodIn_sub (fun _ h => List.mem_cons_of_mem _ (List.mem_append_right _ h)) (by decide +kernel))
set_option maxRecDepth 20000 in
theorem gL_bar_X4_bar : GoodIn wsL_bar (wsV RL 9 RX4 yX4_bar wsX4_bar) := goodIn_app (goodIn_of _ (by decide +kernel)) ggL_bar_X4_bar
theorem dL_bar_0 : decode cL_bar 0 = .ok (.aload_n 0, 1) := by decide +kernel
theorem dL_bar_1 : decode cL_bar 1 = .ok (.iload_n 1, 1) := by decide +kernel
theorem dL_bar_2 : decode cL_bar 2 = .ok (.iload_n 2, 1) := by decide +kernel
theorem dL_bar_3 : decode cL_bar 3 = .ok (.iload_n 3, 1) := by decide +kernel
theorem dL_bar_4 : decode cL_bar 4 = .ok (.invokevirtual 9, 3) := by decide +kernel
theorem dL_bar_7 : decode cL_bar 7 = .ok (.ireturn, 1) := by decide +kernel
theorem dL_bar_8 : decode cL_bar 8 = .ok (.astore 4, 2) := by decide +kernel
theorem dL_bar_10 : decode cL_bar 10 = .ok (.bipush (-3), 2) := by decide +kernel
theorem dL_bar_12 : decode cL_bar 12 = .ok (.ireturn, 1) := by decide +kernel
set_option maxRecDepth 20000 in
theorem ggL_undo_X4_undo : GoodIn wsL_undo wsX4_undo := goodIn_ca (goodIn_r _ [6, 7, 8, 9, 10, 11, 12, 13, 14, 15, 16, 17, 18, 19, 20, 21, 22, 23, 24, 25, 26, 27, 28, 29, 30, 31, 32, 33, 34, 35, 36, 37, 38, 39, 40, 41, 42, 43, 44, 45, 46, 47, 48, 49, 50, 51, 52, 53, 54, 55, 56] (by decide +kernel) (by decide +kernel)) (goodIn_sub (fun _ h => List.mem_cons_of_mem _ (List.mem_append_right _ h)) (by decide +kernel))
set_option maxRecDepth 20000 in
theorem gL_undo_X4_undo : GoodIn wsL_undo (wsV RL 17 RX4 yX4_undo wsX4_undo) := goodIn_app (goodIn_of _ (by decide +kernel)) ggL_undo_X4_undo
theorem dL_undo_0 : decode cL_undo 0 = .ok (.aload_n 0, 1) := by decide +kernel
theorem dL_undo_1 : decode cL_undo 1 = .ok (.invokevirtual 17, 3) := by decide +kernel
theorem dL_undo_4 : decode cL_undo 4 = .ok (.ireturn, 1) := by decide +kernel
theorem dL_undo_5 : decode cL_undo 5 = .ok (.astore_n 1, 1) := by decide +kernel
theorem dL_undo_6 : decode cL_undo 6 = .ok (.bipush (-3), 2) := by decide +kernel
theorem dL_undo_8 : decode cL_undo 8 = .ok (.ireturn, 1) := by decide +kernel
set_option maxRecDepth 20000 in
theorem ggL_unbar_X4_unbar : GoodIn wsL_unbar wsX4_unbar := goodIn_ca (goodIn_ca (goodIn_r _ [6, 7, 8, 9, 10, 11, 12, 5, 13, 14, 15, 16, 17, 18, 19, 20, 21, 22, 23, 24, 25, 26, 27, 28, 29, 30, 31, 32, 33, 34, 35, 36, 37, 38, 39, 40, 41, 42, 43, 44, 45, 46, 47, 48, 49, 50, 51, 52, 53, 54, 55, 56, 57, 58, 59, 60, 61, 62, 63, 64, 65, 66, 67, 68, 69, 70, 71, 72, 73, 74, 75, 76, 77, 78, 79, 80, 81, 82, 83, 84, 85, 86, 87, 88, 89, 90, 91, 92, 93, 94, 95, 96, 97, 98, 99, 100, 101, 102, 103, 104, 105, 106, 107, 108] (by decide +kernel) (by decide +kernel)) (goodIn_sub (fun _ h => List.mem_cons_of_mem _ (List.mem_append_left _ (List.mem_append_right _ h))) (by decide +kernel))) (goodIn_sub (fun _ h => List.mem_cons_of_mem _ (List.mem_append_right _ h)) (by decide +kernel))
set_option maxRecDepth 20000 in
theorem gL_unbar_X4_unbar : GoodIn wsL_unbar (wsV RL 21 RX4 yX4_unbar wsX4_unbar) := goodIn_app (goodIn_of _ (by decide +kernel)) ggL_unbar_X4_unbar
theorem dL_unbar_0 : decode cL_unbar 0 = .ok (.aload_n 0, 1) := by decide +kernel
theorem dL_unbar_1 : decode cL_unbar 1 = .ok (.iload_n 1, 1) := by decide +kernel
theorem dL_unbar_2 : decode cL_unbar 2 = .ok (.invokevirtual 21, 3) := by decide +kernel
theorem dL_unbar_5 : decode cL_unbar 5 = .ok (.ireturn, 1) := by decide +kernel
theorem dL_unbar_6 : decode cL_unbar 6 = .ok (.astore_n 2, 1) := by decide +kernel
theorem dL_unbar_7 : decode cL_unbar 7 = .ok (.bipush (-3), 2) := by decide +kernel
theorem dL_unbar_9 : decode cL_unbar 9 = .ok (.ireturn, 1) := by decide +kernel
set_option maxRecDepth 20000 in
theorem ggL_grid_X4_count : GoodIn wsL_grid wsX4_count := goodIn_ca (goodIn_r _ [6, 7, 8, 9, 10, 11, 12, 13, 14, 15, 16, 17, 18, 19, 20, 21, 22, 23, 24, 25, 26, 27, 28, 29, 30, 31, 32, 33, 34, 35, 36, 37, 38, 39, 40, 41, 42, 5, 43, 44, 45, 46, 47, 48, 49, 50, 51, 52, 53, 54, 55, 56, 57, 58, 59, 60, 61, 109, 110, 111, 112, 113, 114, 115, 116, 117, 118, 119, 120, 121, 122, 123, 124, 125, 126, 127, 128] (by decide +kernel) (by decide +kernel)) (goodIn_sub (fun _ h => List.mem_cons_of_mem _ (List.mem_append_left _ (List.mem_append_right _ h))) (by decide +kernel))
set_option maxRecDepth 20000 in
theorem gL_grid_X4_count : GoodIn wsL_grid (wsV RL 25 RX4 yX4_count wsX4_count) := goodIn_app (goodIn_of _ (by decide +kernel)) ggL_grid_X4_count
set_option maxRecDepth 20000 in
theorem ggL_grid_X4_cell : GoodIn wsL_grid wsX4_cell := goodIn_ca (goodIn_ca (goodIn_r _ [65, 7, 8, 9, 66, 67, 68, 5, 69, 70, 71, 72, 51, 52, 14, 53, 39, 40, 42, 43, 73, 31, 32, 33, 34, 35, 36, 37, 38, 25, 41, 44, 45, 74, 59, 60, 61, 50, 109, 110, 111, 112, 113, 114, 115, 116, 117, 118, 119, 120, 121, 122, 123, 124, 125] (by decide +kernel) (by decide +kernel)) (goodIn_sub (fun _ h => List.mem_cons_of_mem _ (List.mem_append_left _ (List.mem_append_right _ h))) (by decide +kernel))) (goodIn_sub (fun _ h => List.mem_cons_of_mem _ (List.mem_append_right _ h)) (by decide +kernel))
set_option maxRecDepth 20000 in
theorem gL_grid_X4_cell : GoodIn wsL_grid (wsV RL 28 RX4 yX4_cell wsX4_cell) := goodIn_app (goodIn_of _ (by decide +kernel)) ggL_grid_X4_cell
set_option maxRecDepth 20000 in
theorem ggL_grid_L_size : GoodIn wsL_grid wsL_size := goodIn_r _ [78] (by decide +kernel) (by decide +kernel)
set_option maxRecDepth 20000 in
theorem gL_grid_L_size : GoodIn wsL_grid (va_wsS RL 33 yL_size wsL_size) := goodIn_app (goodIn_of _ (by decide +kernel)) ggL_grid_L_size
set_option maxRecDepth 20000 in
theorem ggL_grid_X4_pointing : GoodIn wsL_grid wsX4_pointing := goodIn_ca (goodIn_r _ [82, 9, 83, 84, 5, 85, 86, 87, 88, 7, 8, 89, 90, 91, 14, 92, 34, 109, 110, 111, 112, 113, 114, 115, 116, 117, 118, 119, 120, 121, 122, 123, 124, 125] (by decide +kernel) (by decide +kernel)) (goodIn_sub (fun _ h => List.mem_cons_of_mem _ (List.mem_append_left _ (List.mem_append_right _ h))) (by decide +kernel))
set_option maxRecDepth 20000 in
theorem gL_grid_X4_pointing : GoodIn wsL_grid (wsV RL 38 RX4 yX4_pointing wsX4_pointing) := goodIn_app (goodIn_of _ (by decide +kernel)) ggL_grid_X4_pointing
set_option maxRecDepth 20000 in
theorem ggL_grid_X4_barOf : GoodIn wsL_grid wsX4_barOf := goodIn_ca (goodIn_r _ [96, 7, 8, 9, 86, 87, 5, 88, 97, 98, 99, 14, 100, 16, 17, 18, 19, 20, 109, 110, 111, 112, 113, 114, 115, 116, 117, 118, 119, 120, 121, 122, 123, 124, 125] (by decide +kernel) (by decide +kernel)) (goodIn_sub (fun _ h => List.mem_cons_of_mem _ (List.mem_append_left _ (List.mem_append_right _ h))) (by decide +kernel))
set_option maxRecDepth 20000 in
theorem gL_grid_X4_barOf : GoodIn wsL_grid (wsV RL 41 RX4 yX4_barOf wsX4_barOf) := goodIn_app (goodIn_of _ (by decide +kernel)) ggL_grid_X4_barOf
set_option maxRecDepth 20000 in
theorem ggL_grid_X4_obedience : GoodIn wsL_grid wsX4_obedience := goodIn_r _ [104, 9, 105, 106, 107, 14, 108, 50, 51, 52, 53, 39, 40, 42, 5, 43, 46, 47, 48, 49, 34, 109, 110, 111, 112, 113, 114, 115, 116, 117, 118, 119, 120, 121, 122, 123, 124, 125] (by decide +kernel) (by decide +kernel)
set_option maxRecDepth 20000 in
theorem gL_grid_X4_obedience : GoodIn wsL_grid (wsV RL 44 RX4 yX4_obedience wsX4_obedience) := goodIn_app (goodIn_of _ (by decide +kernel)) ggL_grid_X4_obedience
theorem dL_grid_0 : decode cL_grid 0 = .ok (.iconst 0, 1) := by decide +kernel
theorem dL_grid_1 : decode cL_grid 1 = .ok (.istore_n 1, 1) := by decide +kernel
theorem dL_grid_2 : decode cL_grid 2 = .ok (.iconst 0, 1) := by decide +kernel
theorem dL_grid_3 : decode cL_grid 3 = .ok (.istore_n 2, 1) := by decide +kernel
theorem dL_grid_4 : decode cL_grid 4 = .ok (.iconst 0, 1) := by decide +kernel
theorem dL_grid_5 : decode cL_grid 5 = .ok (.istore_n 3, 1) := by decide +kernel
theorem dL_grid_6 : decode cL_grid 6 = .ok (.iconst 0, 1) := by decide +kernel
theorem dL_grid_7 : decode cL_grid 7 = .ok (.istore 4, 2) := by decide +kernel
theorem dL_grid_9 : decode cL_grid 9 = .ok (.iconst 0, 1) := by decide +kernel
theorem dL_grid_10 : decode cL_grid 10 = .ok (.istore 5, 2) := by decide +kernel
theorem dL_grid_12 : decode cL_grid 12 = .ok (.aload_n 0, 1) := by decide +kernel
theorem dL_grid_13 : decode cL_grid 13 = .ok (.iconst 1, 1) := by decide +kernel
theorem dL_grid_14 : decode cL_grid 14 = .ok (.invokevirtual 25, 3) := by decide +kernel
theorem dL_grid_17 : decode cL_grid 17 = .ok (.bipush 6, 2) := by decide +kernel
theorem dL_grid_19 : decode cL_grid 19 = .ok (.if_icmp .gt 7, 3) := by decide +kernel
theorem dL_grid_22 : decode cL_grid 22 = .ok (.iconst 1, 1) := by decide +kernel
theorem dL_grid_23 : decode cL_grid 23 = .ok (.goto 4, 3) := by decide +kernel
theorem dL_grid_26 : decode cL_grid 26 = .ok (.iconst 0, 1) := by decide +kernel
theorem dL_grid_27 : decode cL_grid 27 = .ok (.istore 6, 2) := by decide +kernel
theorem dL_grid_29 : decode cL_grid 29 = .ok (.iconst 0, 1) := by decide +kernel
theorem dL_grid_30 : decode cL_grid 30 = .ok (.istore 7, 2) := by decide +kernel
theorem dL_grid_32 : decode cL_grid 32 = .ok (.iload 7, 2) := by decide +kernel
theorem dL_grid_34 : decode cL_grid 34 = .ok (.bipush 36, 2) := by decide +kernel
theorem dL_grid_36 : decode cL_grid 36 = .ok (.if_icmp .ge 287, 3) := by decide +kernel
theorem dL_grid_39 : decode cL_grid 39 = .ok (.iload 6, 2) := by decide +kernel
theorem dL_grid_41 : decode cL_grid 41 = .ok (.ifCond .eq 282, 3) := by decide +kernel
theorem dL_grid_44 : decode cL_grid 44 = .ok (.aload_n 0, 1) := by decide +kernel
theorem dL_grid_45 : decode cL_grid 45 = .ok (.iload 7, 2) := by decide +kernel
theorem dL_grid_47 : decode cL_grid 47 = .ok (.iconst 5, 1) := by decide +kernel
theorem dL_grid_48 : decode cL_grid 48 = .ok (.invokevirtual 28, 3) := by decide +kernel
theorem dL_grid_51 : decode cL_grid 51 = .ok (.istore 8, 2) := by decide +kernel
theorem dL_grid_53 : decode cL_grid 53 = .ok (.aload_n 0, 1) := by decide +kernel
theorem dL_grid_54 : decode cL_grid 54 = .ok (.iload 7, 2) := by decide +kernel
theorem dL_grid_56 : decode cL_grid 56 = .ok (.bipush 7, 2) := by decide +kernel
theorem dL_grid_58 : decode cL_grid 58 = .ok (.invokevirtual 28, 3) := by decide +kernel
theorem dL_grid_61 : decode cL_grid 61 = .ok (.istore 9, 2) := by decide +kernel
theorem dL_grid_63 : decode cL_grid 63 = .ok (.aload_n 0, 1) := by decide +kernel
theorem dL_grid_64 : decode cL_grid 64 = .ok (.iload 7, 2) := by decide +kernel
theorem dL_grid_66 : decode cL_grid 66 = .ok (.iconst 3, 1) := by decide +kernel
theorem dL_grid_67 : decode cL_grid 67 = .ok (.invokevirtual 28, 3) := by decide +kernel
theorem dL_grid_70 : decode cL_grid 70 = .ok (.ldc 32, 2) := by decide +kernel
theorem dL_grid_72 : decode cL_grid 72 = .ok (.isub, 1) := by decide +kernel
theorem dL_grid_73 : decode cL_grid 73 = .ok (.invokestatic 33, 3) := by decide +kernel
theorem dL_grid_76 : decode cL_grid 76 = .ok (.aload_n 0, 1) := by decide +kernel
theorem dL_grid_77 : decode cL_grid 77 = .ok (.iload 7, 2) := by decide +kernel
theorem dL_grid_79 : decode cL_grid 79 = .ok (.iconst 4, 1) := by decide +kernel
theorem dL_grid_80 : decode cL_grid 80 = .ok (.invokevirtual 28, 3) := by decide +kernel
theorem dL_grid_83 : decode cL_grid 83 = .ok (.ldc 32, 2) := by decide +kernel
theorem dL_grid_85 : decode cL_grid 85 = .ok (.isub, 1) := by decide +kernel
theorem dL_grid_86 : decode cL_grid 86 = .ok (.invokestatic 33, 3) := by decide +kernel
theorem dL_grid_89 : decode cL_grid 89 = .ok (.iadd, 1) := by decide +kernel
theorem dL_grid_90 : decode cL_grid 90 = .ok (.istore 10, 2) := by decide +kernel
theorem dL_grid_92 : decode cL_grid 92 = .ok (.aload_n 0, 1) := by decide +kernel
theorem dL_grid_93 : decode cL_grid 93 = .ok (.iload 7, 2) := by decide +kernel
theorem dL_grid_95 : decode cL_grid 95 = .ok (.iconst 2, 1) := by decide +kernel
theorem dL_grid_96 : decode cL_grid 96 = .ok (.invokevirtual 28, 3) := by decide +kernel
theorem dL_grid_99 : decode cL_grid 99 = .ok (.ifCond .ne 29, 3) := by decide +kernel
theorem dL_grid_102 : decode cL_grid 102 = .ok (.iload 8, 2) := by decide +kernel
theorem dL_grid_104 : decode cL_grid 104 = .ok (.ifCond .lt 24, 3) := by decide +kernel
theorem dL_grid_107 : decode cL_grid 107 = .ok (.iload 9, 2) := by decide +kernel
theorem dL_grid_109 : decode cL_grid 109 = .ok (.ifCond .le 19, 3) := by decide +kernel
theorem dL_grid_112 : decode cL_grid 112 = .ok (.iload 10, 2) := by decide +kernel
theorem dL_grid_114 : decode cL_grid 114 = .ok (.aload_n 0, 1) := by decide +kernel
theorem dL_grid_115 : decode cL_grid 115 = .ok (.iload 7, 2) := by decide +kernel
theorem dL_grid_117 : decode cL_grid 117 = .ok (.iconst 1, 1) := by decide +kernel
theorem dL_grid_118 : decode cL_grid 118 = .ok (.invokevirtual 28, 3) := by decide +kernel
theorem dL_grid_121 : decode cL_grid 121 = .ok (.if_icmp .le 7, 3) := by decide +kernel
theorem dL_grid_124 : decode cL_grid 124 = .ok (.iconst 1, 1) := by decide +kernel
theorem dL_grid_125 : decode cL_grid 125 = .ok (.goto 4, 3) := by decide +kernel
theorem dL_grid_128 : decode cL_grid 128 = .ok (.iconst 0, 1) := by decide +kernel
theorem dL_grid_129 : decode cL_grid 129 = .ok (.istore 11, 2) := by decide +kernel
theorem dL_grid_131 : decode cL_grid 131 = .ok (.iload_n 1, 1) := by decide +kernel
theorem dL_grid_132 : decode cL_grid 132 = .ok (.aload_n 0, 1) := by decide +kernel
theorem dL_grid_133 : decode cL_grid 133 = .ok (.iload 7, 2) := by decide +kernel
theorem dL_grid_135 : decode cL_grid 135 = .ok (.iconst 2, 1) := by decide +kernel
theorem dL_grid_136 : decode cL_grid 136 = .ok (.invokevirtual 28, 3) := by decide +kernel
theorem dL_grid_139 : decode cL_grid 139 = .ok (.iadd, 1) := by decide +kernel
theorem dL_grid_140 : decode cL_grid 140 = .ok (.istore_n 1, 1) := by decide +kernel
theorem dL_grid_141 : decode cL_grid 141 = .ok (.iload_n 2, 1) := by decide +kernel
theorem dL_grid_142 : decode cL_grid 142 = .ok (.aload_n 0, 1) := by decide +kernel
theorem dL_grid_143 : decode cL_grid 143 = .ok (.iload 7, 2) := by decide +kernel
theorem dL_grid_145 : decode cL_grid 145 = .ok (.bipush 6, 2) := by decide +kernel
theorem dL_grid_147 : decode cL_grid 147 = .ok (.invokevirtual 28, 3) := by decide +kernel
theorem dL_grid_150 : decode cL_grid 150 = .ok (.iadd, 1) := by decide +kernel
theorem dL_grid_151 : decode cL_grid 151 = .ok (.istore_n 2, 1) := by decide +kernel
theorem dL_grid_152 : decode cL_grid 152 = .ok (.iload_n 3, 1) := by decide +kernel
theorem dL_grid_153 : decode cL_grid 153 = .ok (.iload 9, 2) := by decide +kernel
theorem dL_grid_155 : decode cL_grid 155 = .ok (.ifCond .ne 7, 3) := by decide +kernel
theorem dL_grid_158 : decode cL_grid 158 = .ok (.iconst 1, 1) := by decide +kernel
theorem dL_grid_159 : decode cL_grid 159 = .ok (.goto 4, 3) := by decide +kernel
theorem dL_grid_162 : decode cL_grid 162 = .ok (.iconst 0, 1) := by decide +kernel
theorem dL_grid_163 : decode cL_grid 163 = .ok (.iadd, 1) := by decide +kernel
theorem dL_grid_164 : decode cL_grid 164 = .ok (.istore_n 3, 1) := by decide +kernel
theorem dL_grid_165 : decode cL_grid 165 = .ok (.iload 4, 2) := by decide +kernel
theorem dL_grid_167 : decode cL_grid 167 = .ok (.iload 9, 2) := by decide +kernel
theorem dL_grid_169 : decode cL_grid 169 = .ok (.ifCond .le 8, 3) := by decide +kernel
theorem dL_grid_172 : decode cL_grid 172 = .ok (.iload 9, 2) := by decide +kernel
theorem dL_grid_174 : decode cL_grid 174 = .ok (.goto 4, 3) := by decide +kernel
theorem dL_grid_177 : decode cL_grid 177 = .ok (.iconst 0, 1) := by decide +kernel
theorem dL_grid_178 : decode cL_grid 178 = .ok (.iadd, 1) := by decide +kernel
theorem dL_grid_179 : decode cL_grid 179 = .ok (.istore 4, 2) := by decide +kernel
theorem dL_grid_181 : decode cL_grid 181 = .ok (.aload_n 0, 1) := by decide +kernel
theorem dL_grid_182 : decode cL_grid 182 = .ok (.iload 7, 2) := by decide +kernel
theorem dL_grid_184 : decode cL_grid 184 = .ok (.bipush 6, 2) := by decide +kernel
theorem dL_grid_186 : decode cL_grid 186 = .ok (.invokevirtual 28, 3) := by decide +kernel
theorem dL_grid_189 : decode cL_grid 189 = .ok (.iconst 1, 1) := by decide +kernel
theorem dL_grid_190 : decode cL_grid 190 = .ok (.if_icmp .ne 7, 3) := by decide +kernel
theorem dL_grid_193 : decode cL_grid 193 = .ok (.iconst 1, 1) := by decide +kernel
theorem dL_grid_194 : decode cL_grid 194 = .ok (.goto 4, 3) := by decide +kernel
theorem dL_grid_197 : decode cL_grid 197 = .ok (.iconst 0, 1) := by decide +kernel
theorem dL_grid_198 : decode cL_grid 198 = .ok (.iload 11, 2) := by decide +kernel
theorem dL_grid_200 : decode cL_grid 200 = .ok (.if_icmp .ne 114, 3) := by decide +kernel
theorem dL_grid_203 : decode cL_grid 203 = .ok (.iload 8, 2) := by decide +kernel
theorem dL_grid_205 : decode cL_grid 205 = .ok (.iconst (-1), 1) := by decide +kernel
theorem dL_grid_206 : decode cL_grid 206 = .ok (.if_icmp .ne 7, 3) := by decide +kernel
theorem dL_grid_209 : decode cL_grid 209 = .ok (.iconst 1, 1) := by decide +kernel
theorem dL_grid_210 : decode cL_grid 210 = .ok (.goto 4, 3) := by decide +kernel
theorem dL_grid_213 : decode cL_grid 213 = .ok (.iconst 0, 1) := by decide +kernel
theorem dL_grid_214 : decode cL_grid 214 = .ok (.iload 10, 2) := by decide +kernel
theorem dL_grid_216 : decode cL_grid 216 = .ok (.ifCond .ne 7, 3) := by decide +kernel
theorem dL_grid_219 : decode cL_grid 219 = .ok (.iconst 1, 1) := by decide +kernel
theorem dL_grid_220 : decode cL_grid 220 = .ok (.goto 4, 3) := by decide +kernel
theorem dL_grid_223 : decode cL_grid 223 = .ok (.iconst 0, 1) := by decide +kernel
theorem dL_grid_224 : decode cL_grid 224 = .ok (.if_icmp .ne 90, 3) := by decide +kernel
theorem dL_grid_227 : decode cL_grid 227 = .ok (.iload 8, 2) := by decide +kernel
theorem dL_grid_229 : decode cL_grid 229 = .ok (.iconst (-1), 1) := by decide +kernel
theorem dL_grid_230 : decode cL_grid 230 = .ok (.if_icmp .ne 7, 3) := by decide +kernel
theorem dL_grid_233 : decode cL_grid 233 = .ok (.iconst 1, 1) := by decide +kernel
theorem dL_grid_234 : decode cL_grid 234 = .ok (.goto 4, 3) := by decide +kernel
theorem dL_grid_237 : decode cL_grid 237 = .ok (.iconst 0, 1) := by decide +kernel
theorem dL_grid_238 : decode cL_grid 238 = .ok (.iload 9, 2) := by decide +kernel
theorem dL_grid_240 : decode cL_grid 240 = .ok (.iconst (-1), 1) := by decide +kernel
theorem dL_grid_241 : decode cL_grid 241 = .ok (.if_icmp .ne 7, 3) := by decide +kernel
theorem dL_grid_244 : decode cL_grid 244 = .ok (.iconst 1, 1) := by decide +kernel
theorem dL_grid_245 : decode cL_grid 245 = .ok (.goto 4, 3) := by decide +kernel
theorem dL_grid_248 : decode cL_grid 248 = .ok (.iconst 0, 1) := by decide +kernel
theorem dL_grid_249 : decode cL_grid 249 = .ok (.if_icmp .ne 65, 3) := by decide +kernel
theorem dL_grid_252 : decode cL_grid 252 = .ok (.iload 9, 2) := by decide +kernel
theorem dL_grid_254 : decode cL_grid 254 = .ok (.ifCond .ne 7, 3) := by decide +kernel
theorem dL_grid_257 : decode cL_grid 257 = .ok (.iconst 1, 1) := by decide +kernel
theorem dL_grid_258 : decode cL_grid 258 = .ok (.goto 4, 3) := by decide +kernel
theorem dL_grid_261 : decode cL_grid 261 = .ok (.iconst 0, 1) := by decide +kernel
theorem dL_grid_262 : decode cL_grid 262 = .ok (.iload 8, 2) := by decide +kernel
theorem dL_grid_264 : decode cL_grid 264 = .ok (.aload_n 0, 1) := by decide +kernel
theorem dL_grid_265 : decode cL_grid 265 = .ok (.iload 7, 2) := by decide +kernel
theorem dL_grid_267 : decode cL_grid 267 = .ok (.iconst 0, 1) := by decide +kernel
theorem dL_grid_268 : decode cL_grid 268 = .ok (.invokevirtual 28, 3) := by decide +kernel
theorem dL_grid_271 : decode cL_grid 271 = .ok (.if_icmp .ne 7, 3) := by decide +kernel
theorem dL_grid_274 : decode cL_grid 274 = .ok (.iconst 1, 1) := by decide +kernel
theorem dL_grid_275 : decode cL_grid 275 = .ok (.goto 4, 3) := by decide +kernel
theorem dL_grid_278 : decode cL_grid 278 = .ok (.iconst 0, 1) := by decide +kernel
theorem dL_grid_279 : decode cL_grid 279 = .ok (.if_icmp .ne 35, 3) := by decide +kernel
theorem dL_grid_282 : decode cL_grid 282 = .ok (.iload 9, 2) := by decide +kernel
theorem dL_grid_284 : decode cL_grid 284 = .ok (.iconst 4, 1) := by decide +kernel
theorem dL_grid_285 : decode cL_grid 285 = .ok (.if_icmp .gt 29, 3) := by decide +kernel
theorem dL_grid_288 : decode cL_grid 288 = .ok (.aload_n 0, 1) := by decide +kernel
theorem dL_grid_289 : decode cL_grid 289 = .ok (.iload 7, 2) := by decide +kernel
theorem dL_grid_291 : decode cL_grid 291 = .ok (.iconst 0, 1) := by decide +kernel
theorem dL_grid_292 : decode cL_grid 292 = .ok (.invokevirtual 28, 3) := by decide +kernel
theorem dL_grid_295 : decode cL_grid 295 = .ok (.ifCond .lt 19, 3) := by decide +kernel
theorem dL_grid_298 : decode cL_grid 298 = .ok (.aload_n 0, 1) := by decide +kernel
theorem dL_grid_299 : decode cL_grid 299 = .ok (.iload 7, 2) := by decide +kernel
theorem dL_grid_301 : decode cL_grid 301 = .ok (.iconst 0, 1) := by decide +kernel
theorem dL_grid_302 : decode cL_grid 302 = .ok (.invokevirtual 28, 3) := by decide +kernel
theorem dL_grid_305 : decode cL_grid 305 = .ok (.bipush 7, 2) := by decide +kernel
theorem dL_grid_307 : decode cL_grid 307 = .ok (.if_icmp .gt 7, 3) := by decide +kernel
theorem dL_grid_310 : decode cL_grid 310 = .ok (.iconst 1, 1) := by decide +kernel
theorem dL_grid_311 : decode cL_grid 311 = .ok (.goto 4, 3) := by decide +kernel
theorem dL_grid_314 : decode cL_grid 314 = .ok (.iconst 0, 1) := by decide +kernel
theorem dL_grid_315 : decode cL_grid 315 = .ok (.istore 6, 2) := by decide +kernel
theorem dL_grid_317 : decode cL_grid 317 = .ok (.iinc 7 1, 3) := by decide +kernel
theorem dL_grid_320 : decode cL_grid 320 = .ok (.goto (-288), 3) := by decide +kernel
theorem dL_grid_323 : decode cL_grid 323 = .ok (.iconst 0, 1) := by decide +kernel
theorem dL_grid_324 : decode cL_grid 324 = .ok (.istore 7, 2) := by decide +kernel
theorem dL_grid_326 : decode cL_grid 326 = .ok (.iload 7, 2) := by decide +kernel
theorem dL_grid_328 : decode cL_grid 328 = .ok (.bipush 8, 2) := by decide +kernel
theorem dL_grid_330 : decode cL_grid 330 = .ok (.if_icmp .ge 20, 3) := by decide +kernel
theorem dL_grid_333 : decode cL_grid 333 = .ok (.iload 5, 2) := by decide +kernel
theorem dL_grid_335 : decode cL_grid 335 = .ok (.aload_n 0, 1) := by decide +kernel
theorem dL_grid_336 : decode cL_grid 336 = .ok (.iload 7, 2) := by decide +kernel
theorem dL_grid_338 : decode cL_grid 338 = .ok (.invokevirtual 38, 3) := by decide +kernel
theorem dL_grid_341 : decode cL_grid 341 = .ok (.iadd, 1) := by decide +kernel
theorem dL_grid_342 : decode cL_grid 342 = .ok (.istore 5, 2) := by decide +kernel
theorem dL_grid_344 : decode cL_grid 344 = .ok (.iinc 7 1, 3) := by decide +kernel
theorem dL_grid_347 : decode cL_grid 347 = .ok (.goto (-21), 3) := by decide +kernel
theorem dL_grid_350 : decode cL_grid 350 = .ok (.iconst 0, 1) := by decide +kernel
theorem dL_grid_351 : decode cL_grid 351 = .ok (.istore 7, 2) := by decide +kernel
theorem dL_grid_353 : decode cL_grid 353 = .ok (.iload 7, 2) := by decide +kernel
theorem dL_grid_355 : decode cL_grid 355 = .ok (.aload_n 0, 1) := by decide +kernel
theorem dL_grid_356 : decode cL_grid 356 = .ok (.iconst 1, 1) := by decide +kernel
theorem dL_grid_357 : decode cL_grid 357 = .ok (.invokevirtual 25, 3) := by decide +kernel
theorem dL_grid_360 : decode cL_grid 360 = .ok (.if_icmp .gt 97, 3) := by decide +kernel
theorem dL_grid_363 : decode cL_grid 363 = .ok (.iload 6, 2) := by decide +kernel
theorem dL_grid_365 : decode cL_grid 365 = .ok (.ifCond .eq 92, 3) := by decide +kernel
theorem dL_grid_368 : decode cL_grid 368 = .ok (.iload 7, 2) := by decide +kernel
theorem dL_grid_370 : decode cL_grid 370 = .ok (.aload_n 0, 1) := by decide +kernel
theorem dL_grid_371 : decode cL_grid 371 = .ok (.iconst 1, 1) := by decide +kernel
theorem dL_grid_372 : decode cL_grid 372 = .ok (.invokevirtual 25, 3) := by decide +kernel
theorem dL_grid_375 : decode cL_grid 375 = .ok (.if_icmp .ne 22, 3) := by decide +kernel
theorem dL_grid_378 : decode cL_grid 378 = .ok (.aload_n 0, 1) := by decide +kernel
theorem dL_grid_379 : decode cL_grid 379 = .ok (.iload 7, 2) := by decide +kernel
theorem dL_grid_381 : decode cL_grid 381 = .ok (.iconst 0, 1) := by decide +kernel
theorem dL_grid_382 : decode cL_grid 382 = .ok (.invokevirtual 41, 3) := by decide +kernel
theorem dL_grid_385 : decode cL_grid 385 = .ok (.iconst (-1), 1) := by decide +kernel
theorem dL_grid_386 : decode cL_grid 386 = .ok (.if_icmp .ne 7, 3) := by decide +kernel
theorem dL_grid_389 : decode cL_grid 389 = .ok (.iconst 1, 1) := by decide +kernel
theorem dL_grid_390 : decode cL_grid 390 = .ok (.goto 59, 3) := by decide +kernel
theorem dL_grid_393 : decode cL_grid 393 = .ok (.iconst 0, 1) := by decide +kernel
theorem dL_grid_394 : decode cL_grid 394 = .ok (.goto 55, 3) := by decide +kernel
theorem dL_grid_397 : decode cL_grid 397 = .ok (.iload 7, 2) := by decide +kernel
theorem dL_grid_399 : decode cL_grid 399 = .ok (.ifCond .eq 22, 3) := by decide +kernel
theorem dL_grid_402 : decode cL_grid 402 = .ok (.aload_n 0, 1) := by decide +kernel
theorem dL_grid_403 : decode cL_grid 403 = .ok (.iload 7, 2) := by decide +kernel
theorem dL_grid_405 : decode cL_grid 405 = .ok (.iconst 0, 1) := by decide +kernel
theorem dL_grid_406 : decode cL_grid 406 = .ok (.invokevirtual 41, 3) := by decide +kernel
theorem dL_grid_409 : decode cL_grid 409 = .ok (.aload_n 0, 1) := by decide +kernel
theorem dL_grid_410 : decode cL_grid 410 = .ok (.iload 7, 2) := by decide +kernel
theorem dL_grid_412 : decode cL_grid 412 = .ok (.iconst 1, 1) := by decide +kernel
theorem dL_grid_413 : decode cL_grid 413 = .ok (.isub, 1) := by decide +kernel
theorem dL_grid_414 : decode cL_grid 414 = .ok (.iconst 0, 1) := by decide +kernel
theorem dL_grid_415 : decode cL_grid 415 = .ok (.invokevirtual 41, 3) := by decide +kernel
theorem dL_grid_418 : decode cL_grid 418 = .ok (.if_icmp .le 30, 3) := by decide +kernel
theorem dL_grid_421 : decode cL_grid 421 = .ok (.aload_n 0, 1) := by decide +kernel
theorem dL_grid_422 : decode cL_grid 422 = .ok (.iload 7, 2) := by decide +kernel
theorem dL_grid_424 : decode cL_grid 424 = .ok (.iconst 2, 1) := by decide +kernel
theorem dL_grid_425 : decode cL_grid 425 = .ok (.invokevirtual 41, 3) := by decide +kernel
theorem dL_grid_428 : decode cL_grid 428 = .ok (.iconst 1, 1) := by decide +kernel
theorem dL_grid_429 : decode cL_grid 429 = .ok (.if_icmp .lt 19, 3) := by decide +kernel
theorem dL_grid_432 : decode cL_grid 432 = .ok (.aload_n 0, 1) := by decide +kernel
theorem dL_grid_433 : decode cL_grid 433 = .ok (.iload 7, 2) := by decide +kernel
theorem dL_grid_435 : decode cL_grid 435 = .ok (.iconst 2, 1) := by decide +kernel
theorem dL_grid_436 : decode cL_grid 436 = .ok (.invokevirtual 41, 3) := by decide +kernel
theorem dL_grid_439 : decode cL_grid 439 = .ok (.bipush 50, 2) := by decide +kernel
theorem dL_grid_441 : decode cL_grid 441 = .ok (.if_icmp .gt 7, 3) := by decide +kernel
theorem dL_grid_444 : decode cL_grid 444 = .ok (.iconst 1, 1) := by decide +kernel
theorem dL_grid_445 : decode cL_grid 445 = .ok (.goto 4, 3) := by decide +kernel
theorem dL_grid_448 : decode cL_grid 448 = .ok (.iconst 0, 1) := by decide +kernel
theorem dL_grid_449 : decode cL_grid 449 = .ok (.istore 6, 2) := by decide +kernel
theorem dL_grid_451 : decode cL_grid 451 = .ok (.iinc 7 1, 3) := by decide +kernel
theorem dL_grid_454 : decode cL_grid 454 = .ok (.goto (-101), 3) := by decide +kernel
theorem dL_grid_457 : decode cL_grid 457 = .ok (.iload 6, 2) := by decide +kernel
theorem dL_grid_459 : decode cL_grid 459 = .ok (.ifCond .eq 71, 3) := by decide +kernel
theorem dL_grid_462 : decode cL_grid 462 = .ok (.iload 5, 2) := by decide +kernel
theorem dL_grid_464 : decode cL_grid 464 = .ok (.bipush 36, 2) := by decide +kernel
theorem dL_grid_466 : decode cL_grid 466 = .ok (.if_icmp .ne 64, 3) := by decide +kernel
theorem dL_grid_469 : decode cL_grid 469 = .ok (.iload_n 1, 1) := by decide +kernel
theorem dL_grid_470 : decode cL_grid 470 = .ok (.aload_n 0, 1) := by decide +kernel
theorem dL_grid_471 : decode cL_grid 471 = .ok (.iconst 4, 1) := by decide +kernel
theorem dL_grid_472 : decode cL_grid 472 = .ok (.invokevirtual 25, 3) := by decide +kernel
theorem dL_grid_475 : decode cL_grid 475 = .ok (.if_icmp .ne 55, 3) := by decide +kernel
theorem dL_grid_478 : decode cL_grid 478 = .ok (.iload_n 2, 1) := by decide +kernel
theorem dL_grid_479 : decode cL_grid 479 = .ok (.aload_n 0, 1) := by decide +kernel
theorem dL_grid_480 : decode cL_grid 480 = .ok (.iconst 5, 1) := by decide +kernel
theorem dL_grid_481 : decode cL_grid 481 = .ok (.invokevirtual 25, 3) := by decide +kernel
theorem dL_grid_484 : decode cL_grid 484 = .ok (.if_icmp .ne 46, 3) := by decide +kernel
theorem dL_grid_487 : decode cL_grid 487 = .ok (.iload_n 3, 1) := by decide +kernel
theorem dL_grid_488 : decode cL_grid 488 = .ok (.aload_n 0, 1) := by decide +kernel
theorem dL_grid_489 : decode cL_grid 489 = .ok (.bipush 6, 2) := by decide +kernel
theorem dL_grid_491 : decode cL_grid 491 = .ok (.invokevirtual 25, 3) := by decide +kernel
theorem dL_grid_494 : decode cL_grid 494 = .ok (.if_icmp .ne 36, 3) := by decide +kernel
theorem dL_grid_497 : decode cL_grid 497 = .ok (.iload 4, 2) := by decide +kernel
theorem dL_grid_499 : decode cL_grid 499 = .ok (.aload_n 0, 1) := by decide +kernel
theorem dL_grid_500 : decode cL_grid 500 = .ok (.bipush 7, 2) := by decide +kernel
theorem dL_grid_502 : decode cL_grid 502 = .ok (.invokevirtual 25, 3) := by decide +kernel
theorem dL_grid_505 : decode cL_grid 505 = .ok (.if_icmp .ne 25, 3) := by decide +kernel
theorem dL_grid_508 : decode cL_grid 508 = .ok (.aload_n 0, 1) := by decide +kernel
theorem dL_grid_509 : decode cL_grid 509 = .ok (.invokevirtual 44, 3) := by decide +kernel
theorem dL_grid_512 : decode cL_grid 512 = .ok (.dconst 0, 1) := by decide +kernel
theorem dL_grid_513 : decode cL_grid 513 = .ok (.dcmp .l, 1) := by decide +kernel
theorem dL_grid_514 : decode cL_grid 514 = .ok (.ifCond .lt 16, 3) := by decide +kernel
theorem dL_grid_517 : decode cL_grid 517 = .ok (.aload_n 0, 1) := by decide +kernel
theorem dL_grid_518 : decode cL_grid 518 = .ok (.invokevirtual 44, 3) := by decide +kernel
theorem dL_grid_521 : decode cL_grid 521 = .ok (.dconst 1, 1) := by decide +kernel
theorem dL_grid_522 : decode cL_grid 522 = .ok (.dcmp .g, 1) := by decide +kernel
theorem dL_grid_523 : decode cL_grid 523 = .ok (.ifCond .gt 7, 3) := by decide +kernel
theorem dL_grid_526 : decode cL_grid 526 = .ok (.iconst 1, 1) := by decide +kernel
theorem dL_grid_527 : decode cL_grid 527 = .ok (.goto 4, 3) := by decide +kernel
theorem dL_grid_530 : decode cL_grid 530 = .ok (.iconst 0, 1) := by decide +kernel
theorem dL_grid_531 : decode cL_grid 531 = .ok (.ireturn, 1) := by decide +kernel
set_option maxRecDepth 20000 in
theorem ggL_act_L_cell : GoodIn wsL_act wsL_cell := goodIn_r _ [4, 5] (by decide +kernel) (by decide +kernel)
set_option maxRecDepth 20000 in
theorem gL_act_L_cell : GoodIn wsL_act (va_wsS RL 48 yL_cell wsL_cell) := goodIn_app (goodIn_of _ (by decide +kernel)) ggL_act_L_cell
set_option maxRecDepth 20000 in
theorem ggL_act_L_low : GoodIn wsL_act wsL_low := goodIn_r _ [8, 9] (by decide +kernel) (by decide +kernel)
set_option maxRecDepth 20000 in
theorem gL_act_L_low : GoodIn wsL_act (va_wsS RL 51 yL_low wsL_low) := goodIn_app (goodIn_of _ (by decide +kernel)) ggL_act_L_low
set_option maxRecDepth 20000 in
theorem ggL_act_X4_needle : GoodIn wsL_act wsX4_needle := goodIn_ca (goodIn_ca (goodIn_r _ [14, 15, 16, 17, 18, 13, 19, 20, 21, 22, 23, 24, 25, 26, 27, 28, 29, 30, 31, 32, 33, 34, 35, 36, 37, 38, 39, 40, 41, 42, 43, 44, 45, 46, 47, 48, 49, 50, 51, 52, 53, 54, 55, 56, 57, 58, 59, 60, 61, 62, 63, 64, 65, 66, 67, 68, 69, 70, 71, 72, 73, 220, 221, 222, 223, 224, 225, 226, 227, 228, 229, 230, 231, 232, 233, 234, 235, 236, 237, 238, 239] (by decide +kernel) (by decide +kernel)) (goodIn_sub (fun _ h => List.mem_cons_of_mem _ (List.mem_append_left _ (List.mem_append_left _ (List.mem_append_right _ h)))) (by decide +kernel))) (goodIn_sub (fun _ h => List.mem_cons_of_mem _ (List.mem_append_left _ (List.mem_append_right _ h))) (by decide +kernel))
set_option maxRecDepth 20000 in
theorem gL_act_X4_needle : GoodIn wsL_act (wsV RL 54 RX4 yX4_needle wsX4_needle) := goodIn_app (goodIn_of _ (by decide +kernel)) ggL_act_X4_needle
set_option maxRecDepth 20000 in
theorem ggL_act_X4_friction : GoodIn wsL_act wsX4_friction := goodIn_ca (goodIn_ca (goodIn_r _ [77, 15, 16, 17, 18, 13, 19, 20, 21, 25, 26, 27, 28, 29, 30, 31, 32, 33, 34, 35, 36, 37, 38, 39, 40, 41, 42, 43, 44, 45, 46, 47, 48, 49, 50, 51, 52, 53, 54, 55, 220, 221, 222, 223, 224, 225, 226, 227, 228, 229, 230, 231, 232, 233, 234, 235, 236, 237, 238, 239] (by decide +kernel) (by decide +kernel)) (goodIn_sub (fun _ h => List.mem_cons_of_mem _ (List.mem_append_left _ (List.mem_append_left _ (List.mem_append_right _ h)))) (by decide +kernel))) (goodIn_sub (fun _ h => List.mem_cons_of_mem _ (List.mem_append_left _ (List.mem_append_right _ h))) (by decide +kernel))
set_option maxRecDepth 20000 in
theorem gL_act_X4_friction : GoodIn wsL_act (wsV RL 57 RX4 yX4_friction wsX4_friction) := goodIn_app (goodIn_of _ (by decide +kernel)) ggL_act_X4_friction
set_option maxRecDepth 20000 in
theorem ggL_act_X4_hold : GoodIn wsL_act wsX4_hold := goodIn_ca (goodIn_r _ [81, 15, 16, 17, 18, 13, 19, 20, 21, 30, 31, 32, 33, 34, 35, 36, 37, 38, 39, 40, 41, 42, 43, 44, 45, 46, 47, 48, 49, 50, 51, 52, 53, 54, 55, 220, 221, 222, 223, 224, 225, 226, 227, 228, 229, 230, 231, 232, 233, 234, 235, 236, 237, 238, 239] (by decide +kernel) (by decide +kernel)) (goodIn_sub (fun _ h => List.mem_cons_of_mem _ (List.mem_append_left _ (List.mem_append_left _ (List.mem_append_right _ h)))) (by decide +kernel))
set_option maxRecDepth 20000 in
theorem gL_act_X4_hold : GoodIn wsL_act (wsV RL 60 RX4 yX4_hold wsX4_hold) := goodIn_app (goodIn_of _ (by decide +kernel)) ggL_act_X4_hold
set_option maxRecDepth 20000 in
theorem ggL_act_X4_swap : GoodIn wsL_act wsX4_swap := goodIn_ca (goodIn_r _ [85, 15, 16, 17, 18, 13, 19, 20, 21, 30, 31, 32, 33, 34, 35, 36, 37, 38, 39, 40, 41, 42, 43, 44, 45, 46, 47, 48, 49, 50, 51, 52, 53, 54, 55, 86, 87, 88, 56, 57, 58, 59, 60, 61, 62, 63, 64, 65, 66, 67, 68, 69, 70, 71, 72, 73, 220, 221, 222, 223, 224, 225, 226, 227, 228, 229, 230, 231, 232, 233, 234, 235, 236, 237, 238, 239] (by decide +kernel) (by decide +kernel)) (goodIn_sub (fun _ h => List.mem_cons_of_mem _ (List.mem_append_left _ (List.mem_append_left _ (List.mem_append_right _ h)))) (by decide +kernel))
set_option maxRecDepth 20000 in
theorem gL_act_X4_swap : GoodIn wsL_act (wsV RL 64 RX4 yX4_swap wsX4_swap) := goodIn_app (goodIn_of _ (by decide +kernel)) ggL_act_X4_swap
set_option maxRecDepth 20000 in
theorem ggL_act_L_bar : GoodIn wsL_act wsL_bar := goodIn_ca (goodIn_ca (goodIn_ca (goodIn_r _ [91, 92, 93, 94, 95, 13, 96, 97, 98, 16, 15, 17, 18, 19, 20, 21, 22, 23, 24, 25, 26, 27, 28, 29, 99, 100, 101, 41, 102, 47, 103, 104, 105, 106, 107, 30, 31, 32, 33, 34, 35, 36, 37, 38, 39, 40, 42, 43, 44, 45, 46, 48, 49, 50, 51, 52, 53, 54, 55, 108, 109, 110, 111, 112, 113, 114, 115, 64, 65, 66, 67, 68, 69, 116, 117, 118, 119, 120, 121, 122, 123, 124, 57, 58, 59, 60, 61, 62, 63, 70, 71, 72, 73, 220, 221, 222, 223, 224, 225, 226, 227, 228, 229, 230, 231, 232, 233, 234, 235, 236, 237, 238, 239] (by decide +kernel) (by decide +kernel)) (goodIn_sub (fun _ h => List.mem_cons_of_mem _ (List.mem_append_right _ h)) (by decide +kernel))) (goodIn_sub (fun _ h => List.mem_cons_of_mem _ (List.mem_append_left _ (List.mem_append_left _ (List.mem_append_right _ h)))) (by decide +kernel))) (goodIn_sub (fun _ h => List.mem_cons_of_mem _ (List.mem_append_left _ (List.mem_append_right _ h))) (by decide +kernel))
set_option maxRecDepth 20000 in
theorem gL_act_L_bar : GoodIn wsL_act (va_wsS RL 67 yL_bar wsL_bar) := goodIn_app (goodIn_of _ (by decide +kernel)) ggL_act_L_bar
set_option maxRecDepth 20000 in
theorem ggL_act_X4_count : GoodIn wsL_act wsX4_count := goodIn_ca (goodIn_r _ [128, 28, 29, 16, 15, 103, 104, 105, 41, 106, 107, 100, 101, 102, 47, 129, 130, 131, 132, 45, 133, 134, 135, 136, 137, 138, 139, 140, 43, 141, 142, 143, 144, 50, 51, 44, 145, 13, 146, 147, 148, 149, 150, 151, 152, 153, 154, 155, 156, 157, 158, 159, 160, 161, 162, 163, 164, 220, 221, 222, 223, 224, 225, 226, 227, 228, 229, 230, 231, 232, 233, 234, 235, 236, 237, 238, 239] (by decide +kernel) (by decide +kernel)) (goodIn_sub (fun _ h => List.mem_cons_of_mem _ (List.mem_append_left _ (List.mem_append_right _ h))) (by decide +kernel))
set_option maxRecDepth 20000 in
theorem gL_act_X4_count : GoodIn wsL_act (wsV RL 25 RX4 yX4_count wsX4_count) := goodIn_app (goodIn_of _ (by decide +kernel)) ggL_act_X4_count
set_option maxRecDepth 20000 in
theorem ggL_act_X4_barOf : GoodIn wsL_act wsX4_barOf := goodIn_ca (goodIn_r _ [168, 28, 29, 16, 25, 26, 13, 27, 169, 170, 171, 41, 172, 107, 100, 101, 102, 47, 220, 221, 222, 223, 224, 225, 226, 227, 228, 229, 230, 231, 232, 233, 234, 235, 236] (by decide +kernel) (by decide +kernel)) (goodIn_sub (fun _ h => List.mem_cons_of_mem _ (List.mem_append_left _ (List.mem_append_right _ h))) (by decide +kernel))
set_option maxRecDepth 20000 in
theorem gL_act_X4_barOf : GoodIn wsL_act (wsV RL 41 RX4 yX4_barOf wsX4_barOf) := goodIn_app (goodIn_of _ (by decide +kernel)) ggL_act_X4_barOf
set_option maxRecDepth 20000 in
theorem ggL_act_L_unbar : GoodIn wsL_act wsL_unbar := goodIn_ca (goodIn_ca (goodIn_r _ [175, 92, 176, 177, 178, 13, 179, 97, 98, 16, 15, 17, 18, 19, 20, 21, 99, 100, 101, 41, 102, 47, 30, 31, 32, 33, 34, 35, 36, 37, 38, 39, 40, 42, 43, 44, 45, 46, 48, 49, 50, 51, 52, 53, 54, 55, 180, 181, 182, 183, 184, 109, 110, 111, 112, 113, 114, 115, 64, 65, 66, 67, 68, 69, 107, 116, 117, 118, 119, 120, 121, 122, 123, 124, 57, 58, 59, 60, 61, 62, 63, 70, 71, 72, 73, 103, 104, 105, 106, 220, 221, 222, 223, 224, 225, 226, 227, 228, 229, 230, 231, 232, 233, 234, 235, 236, 237, 238, 239] (by decide +kernel) (by decide +kernel)) (goodIn_sub (fun _ h => List.mem_cons_of_mem _ (List.mem_append_right _ h)) (by decide +kernel))) (goodIn_sub (fun _ h => List.mem_cons_of_mem _ (List.mem_append_left _ (List.mem_append_left _ (List.mem_append_right _ h)))) (by decide +kernel))
set_option maxRecDepth 20000 in
theorem gL_act_L_unbar : GoodIn wsL_act (va_wsS RL 70 yL_unbar wsL_unbar) := goodIn_app (goodIn_of _ (by decide +kernel)) ggL_act_L_unbar
set_option maxRecDepth 20000 in
theorem ggL_act_X4_coil : GoodIn wsL_act wsX4_coil := goodIn_ca (goodIn_r _ [188, 15, 16, 25, 26, 13, 27, 28, 29, 22, 23, 24, 30, 31, 32, 33, 34, 35, 36, 37, 38, 39, 40, 41, 42, 43, 44, 45, 46, 47, 48, 49, 50, 51, 52, 53, 54, 55, 112, 113, 114, 115, 64, 65, 66, 67, 68, 69, 107, 100, 101, 102, 116, 117, 118, 119, 120, 121, 122, 123, 124, 57, 58, 59, 60, 61, 62, 63, 70, 71, 72, 73, 220, 221, 222, 223, 224, 225, 226, 227, 228, 229, 230, 231, 232, 233, 234, 235, 236, 237, 238, 239] (by decide +kernel) (by decide +kernel)) (goodIn_sub (fun _ h => List.mem_cons_of_mem _ (List.mem_append_left _ (List.mem_append_right _ h))) (by decide +kernel))
set_option maxRecDepth 20000 in
theorem gL_act_X4_coil : GoodIn wsL_act (wsV RL 73 RX4 yX4_coil wsX4_coil) := goodIn_app (goodIn_of _ (by decide +kernel)) ggL_act_X4_coil
set_option maxRecDepth 20000 in
theorem ggL_act_X4_set : GoodIn wsL_act wsX4_set := goodIn_ca (goodIn_ca (goodIn_r _ [192, 193, 15, 16, 194, 195, 13, 196, 20, 21, 25, 26, 27, 28, 29, 30, 31, 32, 33, 34, 35, 36, 37, 38, 39, 40, 41, 42, 43, 44, 45, 46, 47, 48, 49, 50, 51, 52, 53, 54, 55, 112, 113, 114, 115, 64, 65, 66, 67, 68, 69, 107, 100, 101, 102, 116, 117, 118, 119, 120, 121, 122, 123, 124, 57, 58, 59, 60, 61, 62, 63, 70, 71, 72, 73, 220, 221, 222, 223, 224, 225, 226, 227, 228, 229, 230, 231, 232, 233, 234, 235, 236, 237, 238, 239] (by decide +kernel) (by decide +kernel)) (goodIn_sub (fun _ h => List.mem_cons_of_mem _ (List.mem_append_left _ (List.mem_append_left _ (List.mem_append_right _ h)))) (by decide +kernel))) (goodIn_sub (fun _ h => List.mem_cons_of_mem _ (List.mem_append_left _ (List.mem_append_right _ h))) (by decide +kernel))
set_option maxRecDepth 20000 in
theorem gL_act_X4_set : GoodIn wsL_act (wsV RL 76 RX4 yX4_set wsX4_set) := goodIn_app (goodIn_of _ (by decide +kernel)) ggL_act_X4_set
set_option maxRecDepth 20000 in
theorem ggL_act_X4_step : GoodIn wsL_act wsX4_step := goodIn_ca (goodIn_r _ [200, 15, 16, 25, 26, 13, 27, 28, 29, 30, 31, 32, 33, 34, 35, 36, 37, 38, 39, 40, 41, 42, 43, 44, 45, 46, 47, 48, 49, 50, 51, 52, 53, 54, 55, 201, 202, 203, 204, 205, 206, 207, 208, 141, 142, 143, 144, 145, 146, 147, 148, 124, 57, 58, 59, 60, 61, 62, 63, 64, 65, 66, 67, 68, 69, 70, 71, 72, 73, 220, 221, 222, 223, 237, 238, 239, 224, 225, 226, 227, 228, 229, 230, 231, 232, 233, 234, 235, 236] (by decide +kernel) (by decide +kernel)) (goodIn_sub (fun _ h => List.mem_cons_of_mem _ (List.mem_append_left _ (List.mem_append_right _ h))) (by decide +kernel))
set_option maxRecDepth 20000 in
theorem gL_act_X4_step : GoodIn wsL_act (wsV RL 79 RX4 yX4_step wsX4_step) := goodIn_app (goodIn_of _ (by decide +kernel)) ggL_act_X4_step
set_option maxRecDepth 20000 in
theorem ggL_act_L_undo : GoodIn wsL_act wsL_undo := goodIn_ca (goodIn_r _ [211, 92, 212, 213, 214, 13, 215, 97, 98, 15, 16, 216, 217, 218, 33, 219, 36, 37, 35, 38, 39, 40, 41, 42, 43, 44, 45, 46, 47, 48, 49, 50, 51, 52, 53, 54, 55, 220, 221, 222, 223, 237, 238, 239, 224, 225, 226, 227, 228, 229, 230, 231, 232, 233, 234, 235, 236] (by decide +kernel) (by decide +kernel)) (goodIn_sub (fun _ h => List.mem_cons_of_mem _ (List.mem_append_right _ h)) (by decide +kernel))
set_option maxRecDepth 20000 in
theorem gL_act_L_undo : GoodIn wsL_act (va_wsS RL 82 yL_undo wsL_undo) := goodIn_app (goodIn_of _ (by decide +kernel)) ggL_act_L_undo
theorem dL_act_0 : decode cL_act 0 = .ok (.aload_n 1, 1) := by decide +kernel
theorem dL_act_1 : decode cL_act 1 = .ok (.iload_n 2, 1) := by decide +kernel
theorem dL_act_2 : decode cL_act 2 = .ok (.iconst 1, 1) := by decide +kernel
theorem dL_act_3 : decode cL_act 3 = .ok (.iadd, 1) := by decide +kernel
theorem dL_act_4 : decode cL_act 4 = .ok (.invokestatic 48, 3) := by decide +kernel
theorem dL_act_7 : decode cL_act 7 = .ok (.istore_n 3, 1) := by decide +kernel
theorem dL_act_8 : decode cL_act 8 = .ok (.aload_n 1, 1) := by decide +kernel
theorem dL_act_9 : decode cL_act 9 = .ok (.iload_n 2, 1) := by decide +kernel
theorem dL_act_10 : decode cL_act 10 = .ok (.iconst 2, 1) := by decide +kernel
theorem dL_act_11 : decode cL_act 11 = .ok (.iadd, 1) := by decide +kernel
theorem dL_act_12 : decode cL_act 12 = .ok (.invokestatic 48, 3) := by decide +kernel
theorem dL_act_15 : decode cL_act 15 = .ok (.istore 4, 2) := by decide +kernel
theorem dL_act_17 : decode cL_act 17 = .ok (.iload_n 3, 1) := by decide +kernel
theorem dL_act_18 : decode cL_act 18 = .ok (.bipush 36, 2) := by decide +kernel
theorem dL_act_20 : decode cL_act 20 = .ok (.invokestatic 51, 3) := by decide +kernel
theorem dL_act_23 : decode cL_act 23 = .ok (.istore 5, 2) := by decide +kernel
theorem dL_act_25 : decode cL_act 25 = .ok (.aload_n 1, 1) := by decide +kernel
theorem dL_act_26 : decode cL_act 26 = .ok (.iload_n 2, 1) := by decide +kernel
theorem dL_act_27 : decode cL_act 27 = .ok (.invokestatic 48, 3) := by decide +kernel
theorem dL_act_30 : decode cL_act 30 = .ok (.bipush 20, 2) := by decide +kernel
theorem dL_act_32 : decode cL_act 32 = .ok (.invokestatic 51, 3) := by decide +kernel
theorem dL_act_35 : decode cL_act 35 = .ok (.tableswitch 296 0 17 #[85, 85, 85, 99, 99, 114, 135, 149, 149, 149, 149, 174, 216, 234, 248, 284, 284, 284], 85) := by decide +kernel
theorem dL_act_120 : decode cL_act 120 = .ok (.aload_n 0, 1) := by decide +kernel
theorem dL_act_121 : decode cL_act 121 = .ok (.iload 5, 2) := by decide +kernel
theorem dL_act_123 : decode cL_act 123 = .ok (.iload 4, 2) := by decide +kernel
theorem dL_act_125 : decode cL_act 125 = .ok (.bipush 8, 2) := by decide +kernel
theorem dL_act_127 : decode cL_act 127 = .ok (.invokestatic 51, 3) := by decide +kernel
theorem dL_act_130 : decode cL_act 130 = .ok (.invokevirtual 54, 3) := by decide +kernel
theorem dL_act_133 : decode cL_act 133 = .ok (.ireturn, 1) := by decide +kernel
theorem dL_act_134 : decode cL_act 134 = .ok (.aload_n 0, 1) := by decide +kernel
theorem dL_act_135 : decode cL_act 135 = .ok (.iload 5, 2) := by decide +kernel
theorem dL_act_137 : decode cL_act 137 = .ok (.iload 4, 2) := by decide +kernel
theorem dL_act_139 : decode cL_act 139 = .ok (.sipush 200, 3) := by decide +kernel
theorem dL_act_142 : decode cL_act 142 = .ok (.invokestatic 51, 3) := by decide +kernel
theorem dL_act_145 : decode cL_act 145 = .ok (.invokevirtual 57, 3) := by decide +kernel
theorem dL_act_148 : decode cL_act 148 = .ok (.ireturn, 1) := by decide +kernel
theorem dL_act_149 : decode cL_act 149 = .ok (.aload_n 0, 1) := by decide +kernel
theorem dL_act_150 : decode cL_act 150 = .ok (.iload 5, 2) := by decide +kernel
theorem dL_act_152 : decode cL_act 152 = .ok (.iload 4, 2) := by decide +kernel
theorem dL_act_154 : decode cL_act 154 = .ok (.iconst 2, 1) := by decide +kernel
theorem dL_act_155 : decode cL_act 155 = .ok (.invokestatic 51, 3) := by decide +kernel
theorem dL_act_158 : decode cL_act 158 = .ok (.ifCond .ne 7, 3) := by decide +kernel
theorem dL_act_161 : decode cL_act 161 = .ok (.iconst 1, 1) := by decide +kernel
theorem dL_act_162 : decode cL_act 162 = .ok (.goto 4, 3) := by decide +kernel
theorem dL_act_165 : decode cL_act 165 = .ok (.iconst 0, 1) := by decide +kernel
theorem dL_act_166 : decode cL_act 166 = .ok (.invokevirtual 60, 3) := by decide +kernel
