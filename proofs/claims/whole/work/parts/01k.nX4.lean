set_option maxRecDepth 20000 in
theorem gX4_digest_X4_count : GoodIn wsX4_digest (wsV RX4 211 RX4 yX4_count wsX4_count) := goodIn_app (goodIn_of _ (by decide +kernel)) ggX4_digest_X4_count
set_option maxRecDepth 20000 in
theorem ggX4_digest_X4_mixed : GoodIn wsX4_digest wsX4_mixed := goodIn_r _ [64, 65] (by decide +kernel) (by decide +kernel)
set_option maxRecDepth 20000 in
theorem gX4_digest_X4_mixed : GoodIn wsX4_digest (va_wsS RX4 214 yX4_mixed wsX4_mixed) := goodIn_app (goodIn_of _ (by decide +kernel)) ggX4_digest_X4_mixed
set_option maxRecDepth 20000 in
theorem ggX4_digest_X4_setting : GoodIn wsX4_digest wsX4_setting := goodIn_ca (goodIn_r _ [69, 9, 70, 71, 5, 72, 73, 74, 205, 206, 207, 208, 209, 210, 211, 212, 213, 214, 215, 216, 217, 218, 219, 220, 221] (by decide +kernel) (by decide +kernel)) (goodIn_sub (fun _ h => List.mem_cons_of_mem _ (List.mem_append_right _ h)) (by decide +kernel))
set_option maxRecDepth 20000 in
theorem gX4_digest_X4_setting : GoodIn wsX4_digest (wsV RX4 218 RX4 yX4_setting wsX4_setting) := goodIn_app (goodIn_of _ (by decide +kernel)) ggX4_digest_X4_setting
set_option maxRecDepth 20000 in
theorem ggX4_digest_X4_withCells : GoodIn wsX4_digest wsX4_withCells := goodIn_ca (goodIn_ca (goodIn_r _ [78, 79, 80, 81, 5, 82, 7, 8, 9, 83, 84, 85, 86, 73, 74, 87, 51, 52, 14, 53, 39, 40, 42, 43, 88, 31, 32, 33, 34, 35, 36, 37, 38, 25, 41, 44, 45, 89, 59, 60, 61, 50, 62, 63, 64, 65, 205, 206, 207, 208, 209, 210, 211, 212, 213, 214, 215, 216, 217, 218, 219, 220, 221] (by decide +kernel) (by decide +kernel)) (goodIn_sub (fun _ h => List.mem_cons_of_mem _ (List.mem_append_left _ (List.mem_append_right _ h))) (by decide +kernel))) (goodIn_sub (fun _ h => List.mem_cons_of_mem _ (List.mem_append_right _ h)) (by decide +kernel))
set_option maxRecDepth 20000 in
theorem gX4_digest_X4_withCells : GoodIn wsX4_digest (wsV RX4 221 RX4 yX4_withCells wsX4_withCells) := goodIn_app (goodIn_of _ (by decide +kernel)) ggX4_digest_X4_withCells
set_option maxRecDepth 20000 in
theorem ggX4_digest_X4_withBars : GoodIn wsX4_digest wsX4_withBars := goodIn_ca (goodIn_r _ [93, 9, 11, 12, 13, 14, 15, 16, 17, 18, 19, 20, 94, 95, 96, 5, 97, 7, 8, 98, 99, 100, 101, 102, 103, 104, 62, 63, 64, 65, 205, 206, 207, 208, 209, 210, 211, 212, 213, 214, 215, 216, 217, 218, 219, 220, 221] (by decide +kernel) (by decide +kernel)) (goodIn_sub (fun _ h => List.mem_cons_of_mem _ (List.mem_append_left _ (List.mem_append_right _ h))) (by decide +kernel))
set_option maxRecDepth 20000 in
theorem gX4_digest_X4_withBars : GoodIn wsX4_digest (wsV RX4 225 RX4 yX4_withBars wsX4_withBars) := goodIn_app (goodIn_of _ (by decide +kernel)) ggX4_digest_X4_withBars
set_option maxRecDepth 20000 in
theorem ggX4_digest_X4_pointing : GoodIn wsX4_digest wsX4_pointing := goodIn_ca (goodIn_r _ [108, 9, 109, 110, 5, 111, 98, 99, 100, 7, 8, 112, 113, 114, 14, 115, 34, 205, 206, 207, 208, 209, 210, 211, 212, 213, 214, 215, 216, 217, 218, 219, 220, 221] (by decide +kernel) (by decide +kernel)) (goodIn_sub (fun _ h => List.mem_cons_of_mem _ (List.mem_append_left _ (List.mem_append_right _ h))) (by decide +kernel))
set_option maxRecDepth 20000 in
theorem gX4_digest_X4_pointing : GoodIn wsX4_digest (wsV RX4 228 RX4 yX4_pointing wsX4_pointing) := goodIn_app (goodIn_of _ (by decide +kernel)) ggX4_digest_X4_pointing
set_option maxRecDepth 20000 in
theorem ggX4_digest_X4_restsIn : GoodIn wsX4_digest wsX4_restsIn := goodIn_r _ [119, 120, 9, 121, 122, 123, 14, 124, 34, 41, 25, 125, 20, 126, 127, 39, 40, 128, 129, 130, 131, 132, 133, 134, 135, 136, 137, 138, 139, 35, 36, 37, 38, 42, 5, 43, 44, 45, 140, 141, 142, 143, 144, 145, 146, 147, 148, 149, 150, 151, 152, 153, 154, 155, 156, 157, 205, 206, 207, 208, 209, 210, 211, 212, 213, 214, 215, 216, 217, 218, 219, 220, 221] (by decide +kernel) (by decide +kernel)
set_option maxRecDepth 20000 in
theorem gX4_digest_X4_restsIn : GoodIn wsX4_digest (wsV RX4 231 RX4 yX4_restsIn wsX4_restsIn) := goodIn_app (goodIn_of _ (by decide +kernel)) ggX4_digest_X4_restsIn
set_option maxRecDepth 20000 in
theorem ggX4_digest_X4_points : GoodIn wsX4_digest wsX4_points := goodIn_ca (goodIn_ca (goodIn_r _ [161, 120, 9, 84, 85, 5, 86, 73, 74, 98, 99, 100, 7, 8, 121, 122, 123, 14, 124, 34, 41, 25, 125, 20, 126, 127, 39, 40, 128, 129, 130, 131, 132, 133, 134, 135, 136, 137, 138, 139, 35, 36, 37, 38, 42, 43, 44, 45, 140, 141, 142, 143, 144, 145, 146, 147, 148, 149, 150, 151, 152, 153, 154, 155, 156, 157, 205, 206, 207, 208, 209, 210, 211, 212, 213, 214, 215, 216, 217, 218, 219, 220, 221] (by decide +kernel) (by decide +kernel)) (goodIn_sub (fun _ h => List.mem_cons_of_mem _ (List.mem_append_right _ h)) (by decide +kernel))) (goodIn_sub (fun _ h => List.mem_cons_of_mem _ (List.mem_append_left _ (List.mem_append_right _ h))) (by decide +kernel))
set_option maxRecDepth 20000 in
theorem gX4_digest_X4_points : GoodIn wsX4_digest (wsV RX4 234 RX4 yX4_points wsX4_points) := goodIn_app (goodIn_of _ (by decide +kernel)) ggX4_digest_X4_points
set_option maxRecDepth 20000 in
theorem ggX4_digest_X4_ifBar : GoodIn wsX4_digest wsX4_ifBar := goodIn_ca (goodIn_ca (goodIn_r _ [165, 9, 84, 85, 5, 86, 73, 74, 109, 110, 111, 98, 99, 100, 7, 8, 166, 167, 168, 14, 169, 125, 20, 39, 40, 170, 171, 172, 148, 149, 150, 173, 151, 152, 153, 42, 43, 87, 51, 52, 53, 205, 206, 207, 208, 209, 210, 211, 212, 213, 214, 215, 216, 217, 218, 219, 220, 221] (by decide +kernel) (by decide +kernel)) (goodIn_sub (fun _ h => List.mem_cons_of_mem _ (List.mem_append_right _ h)) (by decide +kernel))) (goodIn_sub (fun _ h => List.mem_cons_of_mem _ (List.mem_append_left _ (List.mem_append_right _ h))) (by decide +kernel))
set_option maxRecDepth 20000 in
theorem gX4_digest_X4_ifBar : GoodIn wsX4_digest (wsV RX4 237 RX4 yX4_ifBar wsX4_ifBar) := goodIn_app (goodIn_of _ (by decide +kernel)) ggX4_digest_X4_ifBar
set_option maxRecDepth 20000 in
theorem ggX4_digest_X4_bestBar : GoodIn wsX4_digest wsX4_bestBar := goodIn_ca (goodIn_ca (goodIn_r _ [177, 9, 84, 85, 5, 86, 73, 74, 109, 110, 111, 98, 99, 100, 7, 8, 166, 167, 168, 14, 169, 125, 20, 39, 40, 170, 171, 172, 148, 149, 150, 173, 151, 152, 153, 42, 43, 205, 206, 207, 208, 209, 210, 211, 212, 213, 214, 215, 216, 217, 218, 219, 220, 221] (by decide +kernel) (by decide +kernel)) (goodIn_sub (fun _ h => List.mem_cons_of_mem _ (List.mem_append_right _ h)) (by decide +kernel))) (goodIn_sub (fun _ h => List.mem_cons_of_mem _ (List.mem_append_left _ (List.mem_append_right _ h))) (by decide +kernel))
set_option maxRecDepth 20000 in
theorem gX4_digest_X4_bestBar : GoodIn wsX4_digest (wsV RX4 241 RX4 yX4_bestBar wsX4_bestBar) := goodIn_app (goodIn_of _ (by decide +kernel)) ggX4_digest_X4_bestBar
set_option maxRecDepth 20000 in
theorem ggX4_digest_X4_leastTurns : GoodIn wsX4_digest wsX4_leastTurns := goodIn_ca (goodIn_r _ [181, 9, 84, 85, 5, 86, 73, 74, 182, 183, 184, 14, 185, 128, 129, 39, 130, 40, 148, 149, 150, 151, 152, 153, 42, 43, 205, 206, 207, 208, 209, 210, 211, 212, 213, 214, 215, 216, 217, 218, 219, 220, 221] (by decide +kernel) (by decide +kernel)) (goodIn_sub (fun _ h => List.mem_cons_of_mem _ (List.mem_append_right _ h)) (by decide +kernel))
set_option maxRecDepth 20000 in
theorem gX4_digest_X4_leastTurns : GoodIn wsX4_digest (wsV RX4 244 RX4 yX4_leastTurns wsX4_leastTurns) := goodIn_app (goodIn_of _ (by decide +kernel)) ggX4_digest_X4_leastTurns
set_option maxRecDepth 20000 in
theorem ggX4_digest_X4_obedience : GoodIn wsX4_digest wsX4_obedience := goodIn_r _ [189, 9, 190, 191, 192, 14, 193, 50, 51, 52, 53, 39, 40, 42, 5, 43, 46, 47, 48, 49, 34, 205, 206, 207, 208, 209, 210, 211, 212, 213, 214, 215, 216, 217, 218, 219, 220, 221] (by decide +kernel) (by decide +kernel)
set_option maxRecDepth 20000 in
theorem gX4_digest_X4_obedience : GoodIn wsX4_digest (wsV RX4 247 RX4 yX4_obedience wsX4_obedience) := goodIn_app (goodIn_of _ (by decide +kernel)) ggX4_digest_X4_obedience
set_option maxRecDepth 20000 in
theorem ggX4_digest_X4_bitsOf : GoodIn wsX4_digest wsX4_bitsOf := goodIn_r _ [196, 197, 198, 199] (by decide +kernel) (by decide +kernel)
set_option maxRecDepth 20000 in
theorem gX4_digest_X4_bitsOf : GoodIn wsX4_digest (va_wsS RX4 251 yX4_bitsOf wsX4_bitsOf) := goodIn_app (goodIn_of _ (by decide +kernel)) ggX4_digest_X4_bitsOf
set_option maxRecDepth 20000 in
theorem ggX4_digest_X4_withBuffer : GoodIn wsX4_digest wsX4_withBuffer := goodIn_r _ [203, 204, 62, 63, 5, 64, 65, 205, 206, 207, 208, 225, 226, 227] (by decide +kernel) (by decide +kernel)
set_option maxRecDepth 20000 in
theorem gX4_digest_X4_withBuffer : GoodIn wsX4_digest (wsV RX4 255 RX4 yX4_withBuffer wsX4_withBuffer) := goodIn_app (goodIn_of _ (by decide +kernel)) ggX4_digest_X4_withBuffer
theorem dX4_digest_0 : decode cX4_digest 0 = .ok (.ldc2_w 209, 3) := by decide +kernel
theorem dX4_digest_3 : decode cX4_digest 3 = .ok (.lstore_n 1, 1) := by decide +kernel
theorem dX4_digest_4 : decode cX4_digest 4 = .ok (.iconst 0, 1) := by decide +kernel
theorem dX4_digest_5 : decode cX4_digest 5 = .ok (.istore_n 3, 1) := by decide +kernel
theorem dX4_digest_6 : decode cX4_digest 6 = .ok (.iload_n 3, 1) := by decide +kernel
theorem dX4_digest_7 : decode cX4_digest 7 = .ok (.bipush 9, 2) := by decide +kernel
theorem dX4_digest_9 : decode cX4_digest 9 = .ok (.if_icmp .ge 20, 3) := by decide +kernel
theorem dX4_digest_12 : decode cX4_digest 12 = .ok (.lload_n 1, 1) := by decide +kernel
theorem dX4_digest_13 : decode cX4_digest 13 = .ok (.aload_n 0, 1) := by decide +kernel
theorem dX4_digest_14 : decode cX4_digest 14 = .ok (.iload_n 3, 1) := by decide +kernel
theorem dX4_digest_15 : decode cX4_digest 15 = .ok (.invokevirtual 211, 3) := by decide +kernel
theorem dX4_digest_18 : decode cX4_digest 18 = .ok (.i2l, 1) := by decide +kernel
theorem dX4_digest_19 : decode cX4_digest 19 = .ok (.invokestatic 214, 3) := by decide +kernel
theorem dX4_digest_22 : decode cX4_digest 22 = .ok (.lstore_n 1, 1) := by decide +kernel
theorem dX4_digest_23 : decode cX4_digest 23 = .ok (.iinc 3 1, 3) := by decide +kernel
theorem dX4_digest_26 : decode cX4_digest 26 = .ok (.goto (-20), 3) := by decide +kernel
theorem dX4_digest_29 : decode cX4_digest 29 = .ok (.iconst 0, 1) := by decide +kernel
theorem dX4_digest_30 : decode cX4_digest 30 = .ok (.istore_n 3, 1) := by decide +kernel
theorem dX4_digest_31 : decode cX4_digest 31 = .ok (.iload_n 3, 1) := by decide +kernel
theorem dX4_digest_32 : decode cX4_digest 32 = .ok (.iconst 3, 1) := by decide +kernel
theorem dX4_digest_33 : decode cX4_digest 33 = .ok (.if_icmp .ge 20, 3) := by decide +kernel
theorem dX4_digest_36 : decode cX4_digest 36 = .ok (.lload_n 1, 1) := by decide +kernel
theorem dX4_digest_37 : decode cX4_digest 37 = .ok (.aload_n 0, 1) := by decide +kernel
theorem dX4_digest_38 : decode cX4_digest 38 = .ok (.iload_n 3, 1) := by decide +kernel
theorem dX4_digest_39 : decode cX4_digest 39 = .ok (.invokevirtual 218, 3) := by decide +kernel
theorem dX4_digest_42 : decode cX4_digest 42 = .ok (.i2l, 1) := by decide +kernel
theorem dX4_digest_43 : decode cX4_digest 43 = .ok (.invokestatic 214, 3) := by decide +kernel
theorem dX4_digest_46 : decode cX4_digest 46 = .ok (.lstore_n 1, 1) := by decide +kernel
theorem dX4_digest_47 : decode cX4_digest 47 = .ok (.iinc 3 1, 3) := by decide +kernel
theorem dX4_digest_50 : decode cX4_digest 50 = .ok (.goto (-19), 3) := by decide +kernel
theorem dX4_digest_53 : decode cX4_digest 53 = .ok (.aload_n 0, 1) := by decide +kernel
theorem dX4_digest_54 : decode cX4_digest 54 = .ok (.lload_n 1, 1) := by decide +kernel
theorem dX4_digest_55 : decode cX4_digest 55 = .ok (.invokevirtual 221, 3) := by decide +kernel
theorem dX4_digest_58 : decode cX4_digest 58 = .ok (.lstore_n 1, 1) := by decide +kernel
theorem dX4_digest_59 : decode cX4_digest 59 = .ok (.aload_n 0, 1) := by decide +kernel
theorem dX4_digest_60 : decode cX4_digest 60 = .ok (.lload_n 1, 1) := by decide +kernel
theorem dX4_digest_61 : decode cX4_digest 61 = .ok (.invokevirtual 225, 3) := by decide +kernel
theorem dX4_digest_64 : decode cX4_digest 64 = .ok (.lstore_n 1, 1) := by decide +kernel
theorem dX4_digest_65 : decode cX4_digest 65 = .ok (.iconst 0, 1) := by decide +kernel
theorem dX4_digest_66 : decode cX4_digest 66 = .ok (.istore_n 3, 1) := by decide +kernel
theorem dX4_digest_67 : decode cX4_digest 67 = .ok (.iload_n 3, 1) := by decide +kernel
theorem dX4_digest_68 : decode cX4_digest 68 = .ok (.bipush 8, 2) := by decide +kernel
theorem dX4_digest_70 : decode cX4_digest 70 = .ok (.if_icmp .ge 20, 3) := by decide +kernel
theorem dX4_digest_73 : decode cX4_digest 73 = .ok (.lload_n 1, 1) := by decide +kernel
theorem dX4_digest_74 : decode cX4_digest 74 = .ok (.aload_n 0, 1) := by decide +kernel
theorem dX4_digest_75 : decode cX4_digest 75 = .ok (.iload_n 3, 1) := by decide +kernel
theorem dX4_digest_76 : decode cX4_digest 76 = .ok (.invokevirtual 228, 3) := by decide +kernel
theorem dX4_digest_79 : decode cX4_digest 79 = .ok (.i2l, 1) := by decide +kernel
theorem dX4_digest_80 : decode cX4_digest 80 = .ok (.invokestatic 214, 3) := by decide +kernel
theorem dX4_digest_83 : decode cX4_digest 83 = .ok (.lstore_n 1, 1) := by decide +kernel
theorem dX4_digest_84 : decode cX4_digest 84 = .ok (.iinc 3 1, 3) := by decide +kernel
theorem dX4_digest_87 : decode cX4_digest 87 = .ok (.goto (-20), 3) := by decide +kernel
theorem dX4_digest_90 : decode cX4_digest 90 = .ok (.lload_n 1, 1) := by decide +kernel
theorem dX4_digest_91 : decode cX4_digest 91 = .ok (.aload_n 0, 1) := by decide +kernel
theorem dX4_digest_92 : decode cX4_digest 92 = .ok (.invokevirtual 231, 3) := by decide +kernel
theorem dX4_digest_95 : decode cX4_digest 95 = .ok (.i2l, 1) := by decide +kernel
theorem dX4_digest_96 : decode cX4_digest 96 = .ok (.invokestatic 214, 3) := by decide +kernel
theorem dX4_digest_99 : decode cX4_digest 99 = .ok (.lstore_n 1, 1) := by decide +kernel
theorem dX4_digest_100 : decode cX4_digest 100 = .ok (.lload_n 1, 1) := by decide +kernel
theorem dX4_digest_101 : decode cX4_digest 101 = .ok (.aload_n 0, 1) := by decide +kernel
theorem dX4_digest_102 : decode cX4_digest 102 = .ok (.iconst 0, 1) := by decide +kernel
theorem dX4_digest_103 : decode cX4_digest 103 = .ok (.bipush 9, 2) := by decide +kernel
theorem dX4_digest_105 : decode cX4_digest 105 = .ok (.invokevirtual 234, 3) := by decide +kernel
theorem dX4_digest_108 : decode cX4_digest 108 = .ok (.i2l, 1) := by decide +kernel
theorem dX4_digest_109 : decode cX4_digest 109 = .ok (.invokestatic 214, 3) := by decide +kernel
theorem dX4_digest_112 : decode cX4_digest 112 = .ok (.lstore_n 1, 1) := by decide +kernel
theorem dX4_digest_113 : decode cX4_digest 113 = .ok (.lload_n 1, 1) := by decide +kernel
theorem dX4_digest_114 : decode cX4_digest 114 = .ok (.aload_n 0, 1) := by decide +kernel
theorem dX4_digest_115 : decode cX4_digest 115 = .ok (.bipush 14, 2) := by decide +kernel
theorem dX4_digest_117 : decode cX4_digest 117 = .ok (.bipush 9, 2) := by decide +kernel
theorem dX4_digest_119 : decode cX4_digest 119 = .ok (.invokevirtual 234, 3) := by decide +kernel
theorem dX4_digest_122 : decode cX4_digest 122 = .ok (.i2l, 1) := by decide +kernel
theorem dX4_digest_123 : decode cX4_digest 123 = .ok (.invokestatic 214, 3) := by decide +kernel
theorem dX4_digest_126 : decode cX4_digest 126 = .ok (.lstore_n 1, 1) := by decide +kernel
theorem dX4_digest_127 : decode cX4_digest 127 = .ok (.lload_n 1, 1) := by decide +kernel
theorem dX4_digest_128 : decode cX4_digest 128 = .ok (.aload_n 0, 1) := by decide +kernel
theorem dX4_digest_129 : decode cX4_digest 129 = .ok (.bipush 35, 2) := by decide +kernel
theorem dX4_digest_131 : decode cX4_digest 131 = .ok (.bipush 9, 2) := by decide +kernel
theorem dX4_digest_133 : decode cX4_digest 133 = .ok (.invokevirtual 234, 3) := by decide +kernel
theorem dX4_digest_136 : decode cX4_digest 136 = .ok (.i2l, 1) := by decide +kernel
theorem dX4_digest_137 : decode cX4_digest 137 = .ok (.invokestatic 214, 3) := by decide +kernel
theorem dX4_digest_140 : decode cX4_digest 140 = .ok (.lstore_n 1, 1) := by decide +kernel
theorem dX4_digest_141 : decode cX4_digest 141 = .ok (.lload_n 1, 1) := by decide +kernel
theorem dX4_digest_142 : decode cX4_digest 142 = .ok (.aload_n 0, 1) := by decide +kernel
theorem dX4_digest_143 : decode cX4_digest 143 = .ok (.bipush 14, 2) := by decide +kernel
theorem dX4_digest_145 : decode cX4_digest 145 = .ok (.iconst 2, 1) := by decide +kernel
theorem dX4_digest_146 : decode cX4_digest 146 = .ok (.bipush 20, 2) := by decide +kernel
theorem dX4_digest_148 : decode cX4_digest 148 = .ok (.invokevirtual 237, 3) := by decide +kernel
theorem dX4_digest_151 : decode cX4_digest 151 = .ok (.i2l, 1) := by decide +kernel
theorem dX4_digest_152 : decode cX4_digest 152 = .ok (.invokestatic 214, 3) := by decide +kernel
theorem dX4_digest_155 : decode cX4_digest 155 = .ok (.lstore_n 1, 1) := by decide +kernel
theorem dX4_digest_156 : decode cX4_digest 156 = .ok (.lload_n 1, 1) := by decide +kernel
theorem dX4_digest_157 : decode cX4_digest 157 = .ok (.aload_n 0, 1) := by decide +kernel
theorem dX4_digest_158 : decode cX4_digest 158 = .ok (.bipush 20, 2) := by decide +kernel
theorem dX4_digest_160 : decode cX4_digest 160 = .ok (.iconst 0, 1) := by decide +kernel
theorem dX4_digest_161 : decode cX4_digest 161 = .ok (.bipush 30, 2) := by decide +kernel
theorem dX4_digest_163 : decode cX4_digest 163 = .ok (.invokevirtual 241, 3) := by decide +kernel
theorem dX4_digest_166 : decode cX4_digest 166 = .ok (.i2l, 1) := by decide +kernel
theorem dX4_digest_167 : decode cX4_digest 167 = .ok (.invokestatic 214, 3) := by decide +kernel
theorem dX4_digest_170 : decode cX4_digest 170 = .ok (.lstore_n 1, 1) := by decide +kernel
theorem dX4_digest_171 : decode cX4_digest 171 = .ok (.lload_n 1, 1) := by decide +kernel
theorem dX4_digest_172 : decode cX4_digest 172 = .ok (.aload_n 0, 1) := by decide +kernel
theorem dX4_digest_173 : decode cX4_digest 173 = .ok (.bipush 7, 2) := by decide +kernel
theorem dX4_digest_175 : decode cX4_digest 175 = .ok (.invokevirtual 244, 3) := by decide +kernel
theorem dX4_digest_178 : decode cX4_digest 178 = .ok (.i2l, 1) := by decide +kernel
theorem dX4_digest_179 : decode cX4_digest 179 = .ok (.invokestatic 214, 3) := by decide +kernel
theorem dX4_digest_182 : decode cX4_digest 182 = .ok (.lstore_n 1, 1) := by decide +kernel
theorem dX4_digest_183 : decode cX4_digest 183 = .ok (.lload_n 1, 1) := by decide +kernel
theorem dX4_digest_184 : decode cX4_digest 184 = .ok (.aload_n 0, 1) := by decide +kernel
theorem dX4_digest_185 : decode cX4_digest 185 = .ok (.invokevirtual 247, 3) := by decide +kernel
theorem dX4_digest_188 : decode cX4_digest 188 = .ok (.invokestatic 251, 3) := by decide +kernel
theorem dX4_digest_191 : decode cX4_digest 191 = .ok (.invokestatic 214, 3) := by decide +kernel
theorem dX4_digest_194 : decode cX4_digest 194 = .ok (.lstore_n 1, 1) := by decide +kernel
theorem dX4_digest_195 : decode cX4_digest 195 = .ok (.aload_n 0, 1) := by decide +kernel
theorem dX4_digest_196 : decode cX4_digest 196 = .ok (.lload_n 1, 1) := by decide +kernel
theorem dX4_digest_197 : decode cX4_digest 197 = .ok (.invokevirtual 255, 3) := by decide +kernel
theorem dX4_digest_200 : decode cX4_digest 200 = .ok (.lreturn, 1) := by decide +kernel
set_option maxRecDepth 20000 in
theorem ggX4_withCells_X4_cell : GoodIn wsX4_withCells wsX4_cell := goodIn_ca (goodIn_ca (goodIn_r _ [5, 6, 7, 8, 9, 10, 11, 4, 12, 13, 14, 15, 16, 17, 18, 19, 20, 21, 22, 23, 24, 25, 26, 27, 28, 29, 30, 31, 32, 33, 34, 35, 36, 37, 38, 39, 40, 41, 46, 47, 48, 49, 50, 51, 52, 53, 54, 55, 56, 57, 58, 59, 60, 61, 62] (by decide +kernel) (by decide +kernel)) (goodIn_sub (fun _ h => List.mem_cons_of_mem _ (List.mem_append_left _ (List.mem_append_right _ h))) (by decide +kernel))) (goodIn_sub (fun _ h => List.mem_cons_of_mem _ (List.mem_append_right _ h)) (by decide +kernel))
set_option maxRecDepth 20000 in
theorem gX4_withCells_X4_cell : GoodIn wsX4_withCells (wsV RX4 258 RX4 yX4_cell wsX4_cell) := goodIn_app (goodIn_of _ (by decide +kernel)) ggX4_withCells_X4_cell
set_option maxRecDepth 20000 in
theorem ggX4_withCells_X4_mixed : GoodIn wsX4_withCells wsX4_mixed := goodIn_r _ [44, 45] (by decide +kernel) (by decide +kernel)
set_option maxRecDepth 20000 in
theorem gX4_withCells_X4_mixed : GoodIn wsX4_withCells (va_wsS RX4 214 yX4_mixed wsX4_mixed) := goodIn_app (goodIn_of _ (by decide +kernel)) ggX4_withCells_X4_mixed
theorem dX4_withCells_0 : decode cX4_withCells 0 = .ok (.lload_n 1, 1) := by decide +kernel
theorem dX4_withCells_1 : decode cX4_withCells 1 = .ok (.lstore_n 3, 1) := by decide +kernel
theorem dX4_withCells_2 : decode cX4_withCells 2 = .ok (.iconst 0, 1) := by decide +kernel
theorem dX4_withCells_3 : decode cX4_withCells 3 = .ok (.istore 5, 2) := by decide +kernel
theorem dX4_withCells_5 : decode cX4_withCells 5 = .ok (.iload 5, 2) := by decide +kernel
theorem dX4_withCells_7 : decode cX4_withCells 7 = .ok (.bipush 36, 2) := by decide +kernel
theorem dX4_withCells_9 : decode cX4_withCells 9 = .ok (.if_icmp .ge 39, 3) := by decide +kernel
theorem dX4_withCells_12 : decode cX4_withCells 12 = .ok (.iconst 0, 1) := by decide +kernel
theorem dX4_withCells_13 : decode cX4_withCells 13 = .ok (.istore 6, 2) := by decide +kernel
theorem dX4_withCells_15 : decode cX4_withCells 15 = .ok (.iload 6, 2) := by decide +kernel
theorem dX4_withCells_17 : decode cX4_withCells 17 = .ok (.bipush 8, 2) := by decide +kernel
theorem dX4_withCells_19 : decode cX4_withCells 19 = .ok (.if_icmp .ge 23, 3) := by decide +kernel
theorem dX4_withCells_22 : decode cX4_withCells 22 = .ok (.lload_n 3, 1) := by decide +kernel
theorem dX4_withCells_23 : decode cX4_withCells 23 = .ok (.aload_n 0, 1) := by decide +kernel
theorem dX4_withCells_24 : decode cX4_withCells 24 = .ok (.iload 5, 2) := by decide +kernel
theorem dX4_withCells_26 : decode cX4_withCells 26 = .ok (.iload 6, 2) := by decide +kernel
theorem dX4_withCells_28 : decode cX4_withCells 28 = .ok (.invokevirtual 258, 3) := by decide +kernel
theorem dX4_withCells_31 : decode cX4_withCells 31 = .ok (.i2l, 1) := by decide +kernel
theorem dX4_withCells_32 : decode cX4_withCells 32 = .ok (.invokestatic 214, 3) := by decide +kernel
theorem dX4_withCells_35 : decode cX4_withCells 35 = .ok (.lstore_n 3, 1) := by decide +kernel
theorem dX4_withCells_36 : decode cX4_withCells 36 = .ok (.iinc 6 1, 3) := by decide +kernel
theorem dX4_withCells_39 : decode cX4_withCells 39 = .ok (.goto (-24), 3) := by decide +kernel
theorem dX4_withCells_42 : decode cX4_withCells 42 = .ok (.iinc 5 1, 3) := by decide +kernel
theorem dX4_withCells_45 : decode cX4_withCells 45 = .ok (.goto (-40), 3) := by decide +kernel
theorem dX4_withCells_48 : decode cX4_withCells 48 = .ok (.lload_n 3, 1) := by decide +kernel
theorem dX4_withCells_49 : decode cX4_withCells 49 = .ok (.lreturn, 1) := by decide +kernel
set_option maxRecDepth 20000 in
theorem ggX4_withBars_X2_barCount : GoodIn wsX4_withBars wsX2_barCount := goodIn_r _ [6, 7, 8, 9, 5, 10, 11, 34, 35, 36, 37, 38, 39, 40, 41, 42, 43, 44, 45, 46] (by decide +kernel) (by decide +kernel)
set_option maxRecDepth 20000 in
theorem gX4_withBars_X2_barCount : GoodIn wsX4_withBars (wsV RX4 70 RX2 yX2_barCount wsX2_barCount) := goodIn_app (goodIn_of _ (by decide +kernel)) ggX4_withBars_X2_barCount
set_option maxRecDepth 20000 in
theorem ggX4_withBars_X4_barOf : GoodIn wsX4_withBars wsX4_barOf := goodIn_ca (goodIn_r _ [16, 17, 18, 1, 19, 20, 15, 21, 22, 23, 24, 5, 25, 7, 8, 9, 10, 11, 30, 31, 32, 33, 34, 35, 36, 37, 38, 39, 40, 41, 42, 43, 44, 45, 46] (by decide +kernel) (by decide +kernel)) (goodIn_sub (fun _ h => List.mem_cons_of_mem _ (List.mem_append_right _ h)) (by decide +kernel))
set_option maxRecDepth 20000 in
theorem gX4_withBars_X4_barOf : GoodIn wsX4_withBars (wsV RX4 261 RX4 yX4_barOf wsX4_barOf) := goodIn_app (goodIn_of _ (by decide +kernel)) ggX4_withBars_X4_barOf
set_option maxRecDepth 20000 in
theorem ggX4_withBars_X4_mixed : GoodIn wsX4_withBars wsX4_mixed := goodIn_r _ [28, 29] (by decide +kernel) (by decide +kernel)
set_option maxRecDepth 20000 in
theorem gX4_withBars_X4_mixed : GoodIn wsX4_withBars (va_wsS RX4 214 yX4_mixed wsX4_mixed) := goodIn_app (goodIn_of _ (by decide +kernel)) ggX4_withBars_X4_mixed
theorem dX4_withBars_0 : decode cX4_withBars 0 = .ok (.lload_n 1, 1) := by decide +kernel
theorem dX4_withBars_1 : decode cX4_withBars 1 = .ok (.lstore_n 3, 1) := by decide +kernel
theorem dX4_withBars_2 : decode cX4_withBars 2 = .ok (.aload_n 0, 1) := by decide +kernel
theorem dX4_withBars_3 : decode cX4_withBars 3 = .ok (.getfield 12, 3) := by decide +kernel
theorem dX4_withBars_6 : decode cX4_withBars 6 = .ok (.invokevirtual 70, 3) := by decide +kernel
theorem dX4_withBars_9 : decode cX4_withBars 9 = .ok (.istore 5, 2) := by decide +kernel
theorem dX4_withBars_11 : decode cX4_withBars 11 = .ok (.iconst 0, 1) := by decide +kernel
theorem dX4_withBars_12 : decode cX4_withBars 12 = .ok (.istore 6, 2) := by decide +kernel
theorem dX4_withBars_14 : decode cX4_withBars 14 = .ok (.iload 6, 2) := by decide +kernel
theorem dX4_withBars_16 : decode cX4_withBars 16 = .ok (.iload 5, 2) := by decide +kernel
theorem dX4_withBars_18 : decode cX4_withBars 18 = .ok (.if_icmp .ge 38, 3) := by decide +kernel
theorem dX4_withBars_21 : decode cX4_withBars 21 = .ok (.iconst 0, 1) := by decide +kernel
theorem dX4_withBars_22 : decode cX4_withBars 22 = .ok (.istore 7, 2) := by decide +kernel
theorem dX4_withBars_24 : decode cX4_withBars 24 = .ok (.iload 7, 2) := by decide +kernel
theorem dX4_withBars_26 : decode cX4_withBars 26 = .ok (.iconst 3, 1) := by decide +kernel
theorem dX4_withBars_27 : decode cX4_withBars 27 = .ok (.if_icmp .ge 23, 3) := by decide +kernel
theorem dX4_withBars_30 : decode cX4_withBars 30 = .ok (.lload_n 3, 1) := by decide +kernel
theorem dX4_withBars_31 : decode cX4_withBars 31 = .ok (.aload_n 0, 1) := by decide +kernel
theorem dX4_withBars_32 : decode cX4_withBars 32 = .ok (.iload 6, 2) := by decide +kernel
theorem dX4_withBars_34 : decode cX4_withBars 34 = .ok (.iload 7, 2) := by decide +kernel
theorem dX4_withBars_36 : decode cX4_withBars 36 = .ok (.invokevirtual 261, 3) := by decide +kernel
theorem dX4_withBars_39 : decode cX4_withBars 39 = .ok (.i2l, 1) := by decide +kernel
theorem dX4_withBars_40 : decode cX4_withBars 40 = .ok (.invokestatic 214, 3) := by decide +kernel
theorem dX4_withBars_43 : decode cX4_withBars 43 = .ok (.lstore_n 3, 1) := by decide +kernel
theorem dX4_withBars_44 : decode cX4_withBars 44 = .ok (.iinc 7 1, 3) := by decide +kernel
theorem dX4_withBars_47 : decode cX4_withBars 47 = .ok (.goto (-23), 3) := by decide +kernel
theorem dX4_withBars_50 : decode cX4_withBars 50 = .ok (.iinc 6 1, 3) := by decide +kernel
theorem dX4_withBars_53 : decode cX4_withBars 53 = .ok (.goto (-39), 3) := by decide +kernel
theorem dX4_withBars_56 : decode cX4_withBars 56 = .ok (.lload_n 3, 1) := by decide +kernel
theorem dX4_withBars_57 : decode cX4_withBars 57 = .ok (.lreturn, 1) := by decide +kernel
set_option maxRecDepth 20000 in
theorem ggX4_withBuffer_X4_mixed : GoodIn wsX4_withBuffer wsX4_mixed := goodIn_r _ [5, 6] (by decide +kernel) (by decide +kernel)
set_option maxRecDepth 20000 in
theorem gX4_withBuffer_X4_mixed : GoodIn wsX4_withBuffer (va_wsS RX4 214 yX4_mixed wsX4_mixed) := goodIn_app (goodIn_of _ (by decide +kernel)) ggX4_withBuffer_X4_mixed
theorem dX4_withBuffer_0 : decode cX4_withBuffer 0 = .ok (.lload_n 1, 1) := by decide +kernel
theorem dX4_withBuffer_1 : decode cX4_withBuffer 1 = .ok (.aload_n 0, 1) := by decide +kernel
theorem dX4_withBuffer_2 : decode cX4_withBuffer 2 = .ok (.getfield 29, 3) := by decide +kernel
theorem dX4_withBuffer_5 : decode cX4_withBuffer 5 = .ok (.getfield 112, 3) := by decide +kernel
theorem dX4_withBuffer_8 : decode cX4_withBuffer 8 = .ok (.i2l, 1) := by decide +kernel
theorem dX4_withBuffer_9 : decode cX4_withBuffer 9 = .ok (.invokestatic 214, 3) := by decide +kernel
theorem dX4_withBuffer_12 : decode cX4_withBuffer 12 = .ok (.lstore_n 3, 1) := by decide +kernel
theorem dX4_withBuffer_13 : decode cX4_withBuffer 13 = .ok (.iconst 0, 1) := by decide +kernel
theorem dX4_withBuffer_14 : decode cX4_withBuffer 14 = .ok (.istore 5, 2) := by decide +kernel
theorem dX4_withBuffer_16 : decode cX4_withBuffer 16 = .ok (.iload 5, 2) := by decide +kernel
theorem dX4_withBuffer_18 : decode cX4_withBuffer 18 = .ok (.aload_n 0, 1) := by decide +kernel
theorem dX4_withBuffer_19 : decode cX4_withBuffer 19 = .ok (.getfield 29, 3) := by decide +kernel
theorem dX4_withBuffer_22 : decode cX4_withBuffer 22 = .ok (.getfield 112, 3) := by decide +kernel
theorem dX4_withBuffer_25 : decode cX4_withBuffer 25 = .ok (.if_icmp .ge 32, 3) := by decide +kernel
theorem dX4_withBuffer_28 : decode cX4_withBuffer 28 = .ok (.iload 5, 2) := by decide +kernel
theorem dX4_withBuffer_30 : decode cX4_withBuffer 30 = .ok (.bipush 60, 2) := by decide +kernel
theorem dX4_withBuffer_32 : decode cX4_withBuffer 32 = .ok (.if_icmp .ge 25, 3) := by decide +kernel
theorem dX4_withBuffer_35 : decode cX4_withBuffer 35 = .ok (.lload_n 3, 1) := by decide +kernel
theorem dX4_withBuffer_36 : decode cX4_withBuffer 36 = .ok (.aload_n 0, 1) := by decide +kernel
theorem dX4_withBuffer_37 : decode cX4_withBuffer 37 = .ok (.getfield 29, 3) := by decide +kernel
theorem dX4_withBuffer_40 : decode cX4_withBuffer 40 = .ok (.getfield 264, 3) := by decide +kernel
theorem dX4_withBuffer_43 : decode cX4_withBuffer 43 = .ok (.iload 5, 2) := by decide +kernel
theorem dX4_withBuffer_45 : decode cX4_withBuffer 45 = .ok (.iaload, 1) := by decide +kernel
theorem dX4_withBuffer_46 : decode cX4_withBuffer 46 = .ok (.i2l, 1) := by decide +kernel
theorem dX4_withBuffer_47 : decode cX4_withBuffer 47 = .ok (.invokestatic 214, 3) := by decide +kernel
theorem dX4_withBuffer_50 : decode cX4_withBuffer 50 = .ok (.lstore_n 3, 1) := by decide +kernel
theorem dX4_withBuffer_51 : decode cX4_withBuffer 51 = .ok (.iinc 5 1, 3) := by decide +kernel
theorem dX4_withBuffer_54 : decode cX4_withBuffer 54 = .ok (.goto (-38), 3) := by decide +kernel
theorem dX4_withBuffer_57 : decode cX4_withBuffer 57 = .ok (.lload_n 3, 1) := by decide +kernel
theorem dX4_withBuffer_58 : decode cX4_withBuffer 58 = .ok (.lreturn, 1) := by decide +kernel
theorem dX4_mixed_0 : decode cX4_mixed 0 = .ok (.ldc2_w 267, 3) := by decide +kernel
theorem dX4_mixed_3 : decode cX4_mixed 3 = .ok (.lload_n 0, 1) := by decide +kernel
theorem dX4_mixed_4 : decode cX4_mixed 4 = .ok (.lmul, 1) := by decide +kernel
theorem dX4_mixed_5 : decode cX4_mixed 5 = .ok (.lload_n 2, 1) := by decide +kernel
theorem dX4_mixed_6 : decode cX4_mixed 6 = .ok (.ladd, 1) := by decide +kernel
theorem dX4_mixed_7 : decode cX4_mixed 7 = .ok (.lreturn, 1) := by decide +kernel
theorem dX4_bitsOf_0 : decode cX4_bitsOf 0 = .ok (.dload_n 0, 1) := by decide +kernel
theorem dX4_bitsOf_1 : decode cX4_bitsOf 1 = .ok (.dconst 0, 1) := by decide +kernel
theorem dX4_bitsOf_2 : decode cX4_bitsOf 2 = .ok (.dcmp .l, 1) := by decide +kernel
theorem dX4_bitsOf_3 : decode cX4_bitsOf 3 = .ok (.ifCond .gt 5, 3) := by decide +kernel
theorem dX4_bitsOf_6 : decode cX4_bitsOf 6 = .ok (.lconst 0, 1) := by decide +kernel
theorem dX4_bitsOf_7 : decode cX4_bitsOf 7 = .ok (.lreturn, 1) := by decide +kernel
theorem dX4_bitsOf_8 : decode cX4_bitsOf 8 = .ok (.dload_n 0, 1) := by decide +kernel
theorem dX4_bitsOf_9 : decode cX4_bitsOf 9 = .ok (.dstore_n 2, 1) := by decide +kernel
theorem dX4_bitsOf_10 : decode cX4_bitsOf 10 = .ok (.ldc2_w 269, 3) := by decide +kernel
theorem dX4_bitsOf_13 : decode cX4_bitsOf 13 = .ok (.lstore 4, 2) := by decide +kernel
theorem dX4_bitsOf_15 : decode cX4_bitsOf 15 = .ok (.dload_n 2, 1) := by decide +kernel
theorem dX4_bitsOf_16 : decode cX4_bitsOf 16 = .ok (.dconst 1, 1) := by decide +kernel
theorem dX4_bitsOf_17 : decode cX4_bitsOf 17 = .ok (.dcmp .g, 1) := by decide +kernel
theorem dX4_bitsOf_18 : decode cX4_bitsOf 18 = .ok (.ifCond .ge 25, 3) := by decide +kernel
theorem dX4_bitsOf_21 : decode cX4_bitsOf 21 = .ok (.lload 4, 2) := by decide +kernel
theorem dX4_bitsOf_23 : decode cX4_bitsOf 23 = .ok (.lconst 1, 1) := by decide +kernel
theorem dX4_bitsOf_24 : decode cX4_bitsOf 24 = .ok (.lcmp, 1) := by decide +kernel
theorem dX4_bitsOf_25 : decode cX4_bitsOf 25 = .ok (.ifCond .le 18, 3) := by decide +kernel
theorem dX4_bitsOf_28 : decode cX4_bitsOf 28 = .ok (.dload_n 2, 1) := by decide +kernel
theorem dX4_bitsOf_29 : decode cX4_bitsOf 29 = .ok (.ldc2_w 271, 3) := by decide +kernel
theorem dX4_bitsOf_32 : decode cX4_bitsOf 32 = .ok (.dmul, 1) := by decide +kernel
theorem dX4_bitsOf_33 : decode cX4_bitsOf 33 = .ok (.dstore_n 2, 1) := by decide +kernel
theorem dX4_bitsOf_34 : decode cX4_bitsOf 34 = .ok (.lload 4, 2) := by decide +kernel
theorem dX4_bitsOf_36 : decode cX4_bitsOf 36 = .ok (.lconst 1, 1) := by decide +kernel
theorem dX4_bitsOf_37 : decode cX4_bitsOf 37 = .ok (.lsub, 1) := by decide +kernel
theorem dX4_bitsOf_38 : decode cX4_bitsOf 38 = .ok (.lstore 4, 2) := by decide +kernel
theorem dX4_bitsOf_40 : decode cX4_bitsOf 40 = .ok (.goto (-25), 3) := by decide +kernel
theorem dX4_bitsOf_43 : decode cX4_bitsOf 43 = .ok (.lload 4, 2) := by decide +kernel
theorem dX4_bitsOf_45 : decode cX4_bitsOf 45 = .ok (.bipush 52, 2) := by decide +kernel
theorem dX4_bitsOf_47 : decode cX4_bitsOf 47 = .ok (.lshl, 1) := by decide +kernel
theorem dX4_bitsOf_48 : decode cX4_bitsOf 48 = .ok (.dload_n 2, 1) := by decide +kernel
theorem dX4_bitsOf_49 : decode cX4_bitsOf 49 = .ok (.dconst 1, 1) := by decide +kernel
theorem dX4_bitsOf_50 : decode cX4_bitsOf 50 = .ok (.dsub, 1) := by decide +kernel
theorem dX4_bitsOf_51 : decode cX4_bitsOf 51 = .ok (.ldc2_w 273, 3) := by decide +kernel
theorem dX4_bitsOf_54 : decode cX4_bitsOf 54 = .ok (.dmul, 1) := by decide +kernel
theorem dX4_bitsOf_55 : decode cX4_bitsOf 55 = .ok (.d2l, 1) := by decide +kernel
theorem dX4_bitsOf_56 : decode cX4_bitsOf 56 = .ok (.ladd, 1) := by decide +kernel
theorem dX4_bitsOf_57 : decode cX4_bitsOf 57 = .ok (.lreturn, 1) := by decide +kernel
theorem dX4_exchange_0 : decode cX4_exchange 0 = .ok (.aload_n 0, 1) := by decide +kernel
theorem dX4_exchange_1 : decode cX4_exchange 1 = .ok (.iload_n 1, 1) := by decide +kernel
theorem dX4_exchange_2 : decode cX4_exchange 2 = .ok (.iaload, 1) := by decide +kernel
theorem dX4_exchange_3 : decode cX4_exchange 3 = .ok (.istore_n 3, 1) := by decide +kernel
theorem dX4_exchange_4 : decode cX4_exchange 4 = .ok (.aload_n 0, 1) := by decide +kernel
theorem dX4_exchange_5 : decode cX4_exchange 5 = .ok (.iload_n 1, 1) := by decide +kernel
theorem dX4_exchange_6 : decode cX4_exchange 6 = .ok (.aload_n 0, 1) := by decide +kernel
theorem dX4_exchange_7 : decode cX4_exchange 7 = .ok (.iload_n 2, 1) := by decide +kernel
theorem dX4_exchange_8 : decode cX4_exchange 8 = .ok (.iaload, 1) := by decide +kernel
theorem dX4_exchange_9 : decode cX4_exchange 9 = .ok (.iastore, 1) := by decide +kernel
theorem dX4_exchange_10 : decode cX4_exchange 10 = .ok (.aload_n 0, 1) := by decide +kernel
theorem dX4_exchange_11 : decode cX4_exchange 11 = .ok (.iload_n 2, 1) := by decide +kernel
theorem dX4_exchange_12 : decode cX4_exchange 12 = .ok (.iload_n 3, 1) := by decide +kernel
theorem dX4_exchange_13 : decode cX4_exchange 13 = .ok (.iastore, 1) := by decide +kernel
theorem dX4_exchange_14 : decode cX4_exchange 14 = .ok (.return_, 1) := by decide +kernel
theorem dX4_requireCell_0 : decode cX4_requireCell 0 = .ok (.iload_n 0, 1) := by decide +kernel
theorem dX4_requireCell_1 : decode cX4_requireCell 1 = .ok (.ifCond .lt 9, 3) := by decide +kernel
theorem dX4_requireCell_4 : decode cX4_requireCell 4 = .ok (.iload_n 0, 1) := by decide +kernel
theorem dX4_requireCell_5 : decode cX4_requireCell 5 = .ok (.bipush 36, 2) := by decide +kernel
theorem dX4_requireCell_7 : decode cX4_requireCell 7 = .ok (.if_icmp .lt 14, 3) := by decide +kernel
theorem dX4_requireCell_10 : decode cX4_requireCell 10 = .ok (.new 275, 3) := by decide +kernel
theorem dX4_requireCell_13 : decode cX4_requireCell 13 = .ok (.dup, 1) := by decide +kernel
theorem dX4_requireCell_14 : decode cX4_requireCell 14 = .ok (.ldc_w 277, 3) := by decide +kernel
theorem dX4_requireCell_17 : decode cX4_requireCell 17 = .ok (.invokespecial 279, 3) := by decide +kernel
theorem dX4_requireCell_20 : decode cX4_requireCell 20 = .ok (.athrow, 1) := by decide +kernel
theorem dX4_requireCell_21 : decode cX4_requireCell 21 = .ok (.return_, 1) := by decide +kernel
theorem dX4_requireSetting_0 : decode cX4_requireSetting 0 = .ok (.iload_n 0, 1) := by decide +kernel
theorem dX4_requireSetting_1 : decode cX4_requireSetting 1 = .ok (.ifCond .lt 8, 3) := by decide +kernel
theorem dX4_requireSetting_4 : decode cX4_requireSetting 4 = .ok (.iload_n 0, 1) := by decide +kernel
theorem dX4_requireSetting_5 : decode cX4_requireSetting 5 = .ok (.iconst 3, 1) := by decide +kernel
theorem dX4_requireSetting_6 : decode cX4_requireSetting 6 = .ok (.if_icmp .lt 14, 3) := by decide +kernel
theorem dX4_requireSetting_9 : decode cX4_requireSetting 9 = .ok (.new 275, 3) := by decide +kernel
theorem dX4_requireSetting_12 : decode cX4_requireSetting 12 = .ok (.dup, 1) := by decide +kernel
theorem dX4_requireSetting_13 : decode cX4_requireSetting 13 = .ok (.ldc_w 280, 3) := by decide +kernel
theorem dX4_requireSetting_16 : decode cX4_requireSetting 16 = .ok (.invokespecial 279, 3) := by decide +kernel
theorem dX4_requireSetting_19 : decode cX4_requireSetting 19 = .ok (.athrow, 1) := by decide +kernel
theorem dX4_requireSetting_20 : decode cX4_requireSetting 20 = .ok (.return_, 1) := by decide +kernel
set_option maxRecDepth 20000 in
theorem ggX4_requireDirection_X4_requireBetween : GoodIn wsX4_requireDirection wsX4_requireBetween := goodIn_ca (goodIn_r _ [4, 5, 6] (by decide +kernel) (by decide +kernel)) (goodIn_sub (fun _ h => List.mem_cons_of_mem _ (List.mem_append_right _ h)) (by decide +kernel))
set_option maxRecDepth 20000 in
theorem gX4_requireDirection_X4_requireBetween : GoodIn wsX4_requireDirection (va_wsS RX4 51 yX4_requireBetween wsX4_requireBetween) := goodIn_app (goodIn_of _ (by decide +kernel)) ggX4_requireDirection_X4_requireBetween
theorem dX4_requireDirection_0 : decode cX4_requireDirection 0 = .ok (.iload_n 0, 1) := by decide +kernel
theorem dX4_requireDirection_1 : decode cX4_requireDirection 1 = .ok (.iconst 0, 1) := by decide +kernel
theorem dX4_requireDirection_2 : decode cX4_requireDirection 2 = .ok (.bipush 7, 2) := by decide +kernel
theorem dX4_requireDirection_4 : decode cX4_requireDirection 4 = .ok (.invokestatic 51, 3) := by decide +kernel
theorem dX4_requireDirection_7 : decode cX4_requireDirection 7 = .ok (.return_, 1) := by decide +kernel
theorem dX4_requireBetween_0 : decode cX4_requireBetween 0 = .ok (.iload_n 0, 1) := by decide +kernel
theorem dX4_requireBetween_1 : decode cX4_requireBetween 1 = .ok (.iload_n 1, 1) := by decide +kernel
theorem dX4_requireBetween_2 : decode cX4_requireBetween 2 = .ok (.if_icmp .lt 8, 3) := by decide +kernel
theorem dX4_requireBetween_5 : decode cX4_requireBetween 5 = .ok (.iload_n 0, 1) := by decide +kernel
theorem dX4_requireBetween_6 : decode cX4_requireBetween 6 = .ok (.iload_n 2, 1) := by decide +kernel
theorem dX4_requireBetween_7 : decode cX4_requireBetween 7 = .ok (.if_icmp .le 14, 3) := by decide +kernel
theorem dX4_requireBetween_10 : decode cX4_requireBetween 10 = .ok (.new 127, 3) := by decide +kernel
theorem dX4_requireBetween_13 : decode cX4_requireBetween 13 = .ok (.dup, 1) := by decide +kernel
theorem dX4_requireBetween_14 : decode cX4_requireBetween 14 = .ok (.ldc_w 282, 3) := by decide +kernel
theorem dX4_requireBetween_17 : decode cX4_requireBetween 17 = .ok (.invokespecial 131, 3) := by decide +kernel
theorem dX4_requireBetween_20 : decode cX4_requireBetween 20 = .ok (.athrow, 1) := by decide +kernel
theorem dX4_requireBetween_21 : decode cX4_requireBetween 21 = .ok (.return_, 1) := by decide +kernel
theorem dX4_across_0 : decode cX4_across 0 = .ok (.getstatic 284, 3) := by decide +kernel
theorem dX4_across_3 : decode cX4_across 3 = .ok (.iload_n 0, 1) := by decide +kernel
theorem dX4_across_4 : decode cX4_across 4 = .ok (.bipush 7, 2) := by decide +kernel
theorem dX4_across_6 : decode cX4_across 6 = .ok (.iand, 1) := by decide +kernel
theorem dX4_across_7 : decode cX4_across 7 = .ok (.iaload, 1) := by decide +kernel
theorem dX4_across_8 : decode cX4_across 8 = .ok (.ireturn, 1) := by decide +kernel
theorem dX4_down_0 : decode cX4_down 0 = .ok (.getstatic 287, 3) := by decide +kernel
theorem dX4_down_3 : decode cX4_down 3 = .ok (.iload_n 0, 1) := by decide +kernel
theorem dX4_down_4 : decode cX4_down 4 = .ok (.bipush 7, 2) := by decide +kernel
theorem dX4_down_6 : decode cX4_down 6 = .ok (.iand, 1) := by decide +kernel
theorem dX4_down_7 : decode cX4_down 7 = .ok (.iaload, 1) := by decide +kernel
theorem dX4_down_8 : decode cX4_down 8 = .ok (.ireturn, 1) := by decide +kernel
theorem dX4_aimOf_0 : decode cX4_aimOf 0 = .ok (.iload_n 0, 1) := by decide +kernel
theorem dX4_aimOf_1 : decode cX4_aimOf 1 = .ok (.ifCond .ge 8, 3) := by decide +kernel
theorem dX4_aimOf_4 : decode cX4_aimOf 4 = .ok (.iload_n 0, 1) := by decide +kernel
theorem dX4_aimOf_5 : decode cX4_aimOf 5 = .ok (.ineg, 1) := by decide +kernel
theorem dX4_aimOf_6 : decode cX4_aimOf 6 = .ok (.goto 4, 3) := by decide +kernel
theorem dX4_aimOf_9 : decode cX4_aimOf 9 = .ok (.iload_n 0, 1) := by decide +kernel
theorem dX4_aimOf_10 : decode cX4_aimOf 10 = .ok (.istore_n 2, 1) := by decide +kernel
theorem dX4_aimOf_11 : decode cX4_aimOf 11 = .ok (.iload_n 1, 1) := by decide +kernel
theorem dX4_aimOf_12 : decode cX4_aimOf 12 = .ok (.ifCond .ge 8, 3) := by decide +kernel
theorem dX4_aimOf_15 : decode cX4_aimOf 15 = .ok (.iload_n 1, 1) := by decide +kernel
theorem dX4_aimOf_16 : decode cX4_aimOf 16 = .ok (.ineg, 1) := by decide +kernel
theorem dX4_aimOf_17 : decode cX4_aimOf 17 = .ok (.goto 4, 3) := by decide +kernel
theorem dX4_aimOf_20 : decode cX4_aimOf 20 = .ok (.iload_n 1, 1) := by decide +kernel
theorem dX4_aimOf_21 : decode cX4_aimOf 21 = .ok (.istore_n 3, 1) := by decide +kernel
theorem dX4_aimOf_22 : decode cX4_aimOf 22 = .ok (.iload_n 2, 1) := by decide +kernel
theorem dX4_aimOf_23 : decode cX4_aimOf 23 = .ok (.ifCond .ne 9, 3) := by decide +kernel
theorem dX4_aimOf_26 : decode cX4_aimOf 26 = .ok (.iload_n 3, 1) := by decide +kernel
theorem dX4_aimOf_27 : decode cX4_aimOf 27 = .ok (.ifCond .ne 5, 3) := by decide +kernel
theorem dX4_aimOf_30 : decode cX4_aimOf 30 = .ok (.iconst (-1), 1) := by decide +kernel
theorem dX4_aimOf_31 : decode cX4_aimOf 31 = .ok (.ireturn, 1) := by decide +kernel
theorem dX4_aimOf_32 : decode cX4_aimOf 32 = .ok (.bipush 12, 2) := by decide +kernel
theorem dX4_aimOf_34 : decode cX4_aimOf 34 = .ok (.iload_n 3, 1) := by decide +kernel
theorem dX4_aimOf_35 : decode cX4_aimOf 35 = .ok (.imul, 1) := by decide +kernel
theorem dX4_aimOf_36 : decode cX4_aimOf 36 = .ok (.iconst 5, 1) := by decide +kernel
theorem dX4_aimOf_37 : decode cX4_aimOf 37 = .ok (.iload_n 2, 1) := by decide +kernel
theorem dX4_aimOf_38 : decode cX4_aimOf 38 = .ok (.imul, 1) := by decide +kernel
theorem dX4_aimOf_39 : decode cX4_aimOf 39 = .ok (.if_icmp .gt 13, 3) := by decide +kernel
theorem dX4_aimOf_42 : decode cX4_aimOf 42 = .ok (.iload_n 0, 1) := by decide +kernel
theorem dX4_aimOf_43 : decode cX4_aimOf 43 = .ok (.ifCond .le 7, 3) := by decide +kernel
theorem dX4_aimOf_46 : decode cX4_aimOf 46 = .ok (.iconst 0, 1) := by decide +kernel
theorem dX4_aimOf_47 : decode cX4_aimOf 47 = .ok (.goto 4, 3) := by decide +kernel
theorem dX4_aimOf_50 : decode cX4_aimOf 50 = .ok (.iconst 4, 1) := by decide +kernel
theorem dX4_aimOf_51 : decode cX4_aimOf 51 = .ok (.ireturn, 1) := by decide +kernel
theorem dX4_aimOf_52 : decode cX4_aimOf 52 = .ok (.bipush 12, 2) := by decide +kernel
theorem dX4_aimOf_54 : decode cX4_aimOf 54 = .ok (.iload_n 2, 1) := by decide +kernel
theorem dX4_aimOf_55 : decode cX4_aimOf 55 = .ok (.imul, 1) := by decide +kernel
theorem dX4_aimOf_56 : decode cX4_aimOf 56 = .ok (.iconst 5, 1) := by decide +kernel
theorem dX4_aimOf_57 : decode cX4_aimOf 57 = .ok (.iload_n 3, 1) := by decide +kernel
theorem dX4_aimOf_58 : decode cX4_aimOf 58 = .ok (.imul, 1) := by decide +kernel
theorem dX4_aimOf_59 : decode cX4_aimOf 59 = .ok (.if_icmp .gt 14, 3) := by decide +kernel
theorem dX4_aimOf_62 : decode cX4_aimOf 62 = .ok (.iload_n 1, 1) := by decide +kernel
theorem dX4_aimOf_63 : decode cX4_aimOf 63 = .ok (.ifCond .le 7, 3) := by decide +kernel
theorem dX4_aimOf_66 : decode cX4_aimOf 66 = .ok (.iconst 2, 1) := by decide +kernel
theorem dX4_aimOf_67 : decode cX4_aimOf 67 = .ok (.goto 5, 3) := by decide +kernel
theorem dX4_aimOf_70 : decode cX4_aimOf 70 = .ok (.bipush 6, 2) := by decide +kernel
theorem dX4_aimOf_72 : decode cX4_aimOf 72 = .ok (.ireturn, 1) := by decide +kernel
theorem dX4_aimOf_73 : decode cX4_aimOf 73 = .ok (.iload_n 1, 1) := by decide +kernel
theorem dX4_aimOf_74 : decode cX4_aimOf 74 = .ok (.ifCond .le 13, 3) := by decide +kernel
theorem dX4_aimOf_77 : decode cX4_aimOf 77 = .ok (.iload_n 0, 1) := by decide +kernel
theorem dX4_aimOf_78 : decode cX4_aimOf 78 = .ok (.ifCond .le 7, 3) := by decide +kernel
theorem dX4_aimOf_81 : decode cX4_aimOf 81 = .ok (.iconst 1, 1) := by decide +kernel
theorem dX4_aimOf_82 : decode cX4_aimOf 82 = .ok (.goto 4, 3) := by decide +kernel
theorem dX4_aimOf_85 : decode cX4_aimOf 85 = .ok (.iconst 3, 1) := by decide +kernel
theorem dX4_aimOf_86 : decode cX4_aimOf 86 = .ok (.ireturn, 1) := by decide +kernel
theorem dX4_aimOf_87 : decode cX4_aimOf 87 = .ok (.iload_n 0, 1) := by decide +kernel
theorem dX4_aimOf_88 : decode cX4_aimOf 88 = .ok (.ifCond .le 8, 3) := by decide +kernel
theorem dX4_aimOf_91 : decode cX4_aimOf 91 = .ok (.bipush 7, 2) := by decide +kernel
theorem dX4_aimOf_93 : decode cX4_aimOf 93 = .ok (.goto 4, 3) := by decide +kernel
theorem dX4_aimOf_96 : decode cX4_aimOf 96 = .ok (.iconst 5, 1) := by decide +kernel
theorem dX4_aimOf_97 : decode cX4_aimOf 97 = .ok (.ireturn, 1) := by decide +kernel
set_option maxRecDepth 20000 in
theorem ggX4_pull_X4_across : GoodIn wsX4_pull wsX4_across := goodIn_r _ [4, 5] (by decide +kernel) (by decide +kernel)
set_option maxRecDepth 20000 in
theorem gX4_pull_X4_across : GoodIn wsX4_pull (va_wsS RX4 290 yX4_across wsX4_across) := goodIn_app (goodIn_of _ (by decide +kernel)) ggX4_pull_X4_across
set_option maxRecDepth 20000 in
theorem ggX4_pull_X4_down : GoodIn wsX4_pull wsX4_down := goodIn_r _ [8, 9] (by decide +kernel) (by decide +kernel)
set_option maxRecDepth 20000 in
theorem gX4_pull_X4_down : GoodIn wsX4_pull (va_wsS RX4 293 yX4_down wsX4_down) := goodIn_app (goodIn_of _ (by decide +kernel)) ggX4_pull_X4_down
theorem dX4_pull_0 : decode cX4_pull 0 = .ok (.iload_n 3, 1) := by decide +kernel
theorem dX4_pull_1 : decode cX4_pull 1 = .ok (.bipush 6, 2) := by decide +kernel
