theorem dX5_barOf_9 : decode cX5_barOf 9 = .ok (.iload_n 2, 1) := by decide +kernel
theorem dX5_barOf_10 : decode cX5_barOf 10 = .ok (.iconst 0, 1) := by decide +kernel
theorem dX5_barOf_11 : decode cX5_barOf 11 = .ok (.iconst 2, 1) := by decide +kernel
theorem dX5_barOf_12 : decode cX5_barOf 12 = .ok (.invokestatic 32, 3) := by decide +kernel
theorem dX5_barOf_15 : decode cX5_barOf 15 = .ok (.ifCond .eq 12, 3) := by decide +kernel
theorem dX5_barOf_18 : decode cX5_barOf 18 = .ok (.aload_n 0, 1) := by decide +kernel
theorem dX5_barOf_19 : decode cX5_barOf 19 = .ok (.iload_n 1, 1) := by decide +kernel
theorem dX5_barOf_20 : decode cX5_barOf 20 = .ok (.iload_n 2, 1) := by decide +kernel
theorem dX5_barOf_21 : decode cX5_barOf 21 = .ok (.invokevirtual 143, 3) := by decide +kernel
theorem dX5_barOf_24 : decode cX5_barOf 24 = .ok (.goto 8, 3) := by decide +kernel
theorem dX5_barOf_27 : decode cX5_barOf 27 = .ok (.aload_n 0, 1) := by decide +kernel
theorem dX5_barOf_28 : decode cX5_barOf 28 = .ok (.iconst 1, 1) := by decide +kernel
theorem dX5_barOf_29 : decode cX5_barOf 29 = .ok (.invokevirtual 43, 3) := by decide +kernel
theorem dX5_barOf_32 : decode cX5_barOf 32 = .ok (.ireturn, 1) := by decide +kernel
set_option maxRecDepth 20000 in
theorem ggX5_counted_X5_lying : GoodIn wsX5_counted wsX5_lying := goodIn_r _ [6] (by decide +kernel) (by decide +kernel)
set_option maxRecDepth 20000 in
theorem gX5_counted_X5_lying : GoodIn wsX5_counted (va_wsS RX5 99 yX5_lying wsX5_lying) := goodIn_app (goodIn_of _ (by decide +kernel)) ggX5_counted_X5_lying
set_option maxRecDepth 20000 in
theorem ggX5_counted_X5_away : GoodIn wsX5_counted wsX5_away := goodIn_r _ [10, 11, 12, 13, 5, 14, 15, 16, 17, 18, 19, 20, 21, 22, 23, 24, 25, 26, 27, 28, 29, 30, 31, 32, 33, 34, 35, 36, 37, 38, 39, 40, 50, 51, 52, 53, 54, 55, 56, 57, 58, 59, 60, 61, 62, 63] (by decide +kernel) (by decide +kernel)
set_option maxRecDepth 20000 in
theorem gX5_counted_X5_away : GoodIn wsX5_counted (wsV RX5 137 RX5 yX5_away wsX5_away) := goodIn_app (goodIn_of _ (by decide +kernel)) ggX5_counted_X5_away
set_option maxRecDepth 20000 in
theorem ggX5_counted_X5_ofCell : GoodIn wsX5_counted wsX5_ofCell := goodIn_r _ [44, 1, 15, 45, 16, 11, 12, 13, 5, 14, 17, 18, 19, 20, 21, 22, 23, 24, 25, 26, 27, 28, 29, 30, 31, 32, 33, 34, 35, 36, 37, 38, 39, 40, 46, 47, 48, 49, 7, 8, 9, 10, 50, 51, 52, 53, 54, 55, 56, 57, 58, 59, 60, 61, 62, 63] (by decide +kernel) (by decide +kernel)
set_option maxRecDepth 20000 in
theorem gX5_counted_X5_ofCell : GoodIn wsX5_counted (wsV RX5 140 RX5 yX5_ofCell wsX5_ofCell) := goodIn_app (goodIn_of _ (by decide +kernel)) ggX5_counted_X5_ofCell
theorem dX5_counted_0 : decode cX5_counted 0 = .ok (.iload_n 1, 1) := by decide +kernel
theorem dX5_counted_1 : decode cX5_counted 1 = .ok (.tableswitch 82 0 8 #[51, 58, 66, 66, 82, 82, 82, 82, 77], 51) := by decide +kernel
theorem dX5_counted_52 : decode cX5_counted 52 = .ok (.aload_n 0, 1) := by decide +kernel
theorem dX5_counted_53 : decode cX5_counted 53 = .ok (.getfield 7, 3) := by decide +kernel
theorem dX5_counted_56 : decode cX5_counted 56 = .ok (.iconst 3, 1) := by decide +kernel
theorem dX5_counted_57 : decode cX5_counted 57 = .ok (.iaload, 1) := by decide +kernel
theorem dX5_counted_58 : decode cX5_counted 58 = .ok (.ireturn, 1) := by decide +kernel
theorem dX5_counted_59 : decode cX5_counted 59 = .ok (.aload_n 0, 1) := by decide +kernel
theorem dX5_counted_60 : decode cX5_counted 60 = .ok (.getfield 7, 3) := by decide +kernel
theorem dX5_counted_63 : decode cX5_counted 63 = .ok (.invokestatic 99, 3) := by decide +kernel
theorem dX5_counted_66 : decode cX5_counted 66 = .ok (.ireturn, 1) := by decide +kernel
theorem dX5_counted_67 : decode cX5_counted 67 = .ok (.aload_n 0, 1) := by decide +kernel
theorem dX5_counted_68 : decode cX5_counted 68 = .ok (.getfield 7, 3) := by decide +kernel
theorem dX5_counted_71 : decode cX5_counted 71 = .ok (.iconst 4, 1) := by decide +kernel
theorem dX5_counted_72 : decode cX5_counted 72 = .ok (.iload_n 1, 1) := by decide +kernel
theorem dX5_counted_73 : decode cX5_counted 73 = .ok (.iadd, 1) := by decide +kernel
theorem dX5_counted_74 : decode cX5_counted 74 = .ok (.iconst 2, 1) := by decide +kernel
theorem dX5_counted_75 : decode cX5_counted 75 = .ok (.isub, 1) := by decide +kernel
theorem dX5_counted_76 : decode cX5_counted 76 = .ok (.iaload, 1) := by decide +kernel
theorem dX5_counted_77 : decode cX5_counted 77 = .ok (.ireturn, 1) := by decide +kernel
theorem dX5_counted_78 : decode cX5_counted 78 = .ok (.aload_n 0, 1) := by decide +kernel
theorem dX5_counted_79 : decode cX5_counted 79 = .ok (.getfield 36, 3) := by decide +kernel
theorem dX5_counted_82 : decode cX5_counted 82 = .ok (.ireturn, 1) := by decide +kernel
theorem dX5_counted_83 : decode cX5_counted 83 = .ok (.iconst 0, 1) := by decide +kernel
theorem dX5_counted_84 : decode cX5_counted 84 = .ok (.istore_n 2, 1) := by decide +kernel
theorem dX5_counted_85 : decode cX5_counted 85 = .ok (.iconst 0, 1) := by decide +kernel
theorem dX5_counted_86 : decode cX5_counted 86 = .ok (.istore_n 3, 1) := by decide +kernel
theorem dX5_counted_87 : decode cX5_counted 87 = .ok (.iload_n 3, 1) := by decide +kernel
theorem dX5_counted_88 : decode cX5_counted 88 = .ok (.bipush 36, 2) := by decide +kernel
theorem dX5_counted_90 : decode cX5_counted 90 = .ok (.if_icmp .ge 85, 3) := by decide +kernel
theorem dX5_counted_93 : decode cX5_counted 93 = .ok (.aload_n 0, 1) := by decide +kernel
theorem dX5_counted_94 : decode cX5_counted 94 = .ok (.aload_n 0, 1) := by decide +kernel
theorem dX5_counted_95 : decode cX5_counted 95 = .ok (.getfield 7, 3) := by decide +kernel
theorem dX5_counted_98 : decode cX5_counted 98 = .ok (.iload_n 3, 1) := by decide +kernel
theorem dX5_counted_99 : decode cX5_counted 99 = .ok (.invokevirtual 137, 3) := by decide +kernel
theorem dX5_counted_102 : decode cX5_counted 102 = .ok (.istore 4, 2) := by decide +kernel
theorem dX5_counted_104 : decode cX5_counted 104 = .ok (.iload_n 2, 1) := by decide +kernel
theorem dX5_counted_105 : decode cX5_counted 105 = .ok (.iload_n 1, 1) := by decide +kernel
theorem dX5_counted_106 : decode cX5_counted 106 = .ok (.iconst 4, 1) := by decide +kernel
theorem dX5_counted_107 : decode cX5_counted 107 = .ok (.if_icmp .ne 15, 3) := by decide +kernel
theorem dX5_counted_110 : decode cX5_counted 110 = .ok (.aload_n 0, 1) := by decide +kernel
theorem dX5_counted_111 : decode cX5_counted 111 = .ok (.getfield 7, 3) := by decide +kernel
theorem dX5_counted_114 : decode cX5_counted 114 = .ok (.bipush 78, 2) := by decide +kernel
theorem dX5_counted_116 : decode cX5_counted 116 = .ok (.iload_n 3, 1) := by decide +kernel
theorem dX5_counted_117 : decode cX5_counted 117 = .ok (.iadd, 1) := by decide +kernel
theorem dX5_counted_118 : decode cX5_counted 118 = .ok (.iaload, 1) := by decide +kernel
theorem dX5_counted_119 : decode cX5_counted 119 = .ok (.goto 48, 3) := by decide +kernel
theorem dX5_counted_122 : decode cX5_counted 122 = .ok (.iload_n 1, 1) := by decide +kernel
theorem dX5_counted_123 : decode cX5_counted 123 = .ok (.iconst 5, 1) := by decide +kernel
theorem dX5_counted_124 : decode cX5_counted 124 = .ok (.if_icmp .ne 13, 3) := by decide +kernel
theorem dX5_counted_127 : decode cX5_counted 127 = .ok (.aload_n 0, 1) := by decide +kernel
theorem dX5_counted_128 : decode cX5_counted 128 = .ok (.iload_n 3, 1) := by decide +kernel
theorem dX5_counted_129 : decode cX5_counted 129 = .ok (.bipush 6, 2) := by decide +kernel
theorem dX5_counted_131 : decode cX5_counted 131 = .ok (.invokevirtual 140, 3) := by decide +kernel
theorem dX5_counted_134 : decode cX5_counted 134 = .ok (.goto 33, 3) := by decide +kernel
theorem dX5_counted_137 : decode cX5_counted 137 = .ok (.iload_n 1, 1) := by decide +kernel
theorem dX5_counted_138 : decode cX5_counted 138 = .ok (.bipush 6, 2) := by decide +kernel
theorem dX5_counted_140 : decode cX5_counted 140 = .ok (.if_icmp .ne 16, 3) := by decide +kernel
theorem dX5_counted_143 : decode cX5_counted 143 = .ok (.iload 4, 2) := by decide +kernel
theorem dX5_counted_145 : decode cX5_counted 145 = .ok (.ifCond .ne 7, 3) := by decide +kernel
theorem dX5_counted_148 : decode cX5_counted 148 = .ok (.iconst 1, 1) := by decide +kernel
theorem dX5_counted_149 : decode cX5_counted 149 = .ok (.goto 18, 3) := by decide +kernel
theorem dX5_counted_152 : decode cX5_counted 152 = .ok (.iconst 0, 1) := by decide +kernel
theorem dX5_counted_153 : decode cX5_counted 153 = .ok (.goto 14, 3) := by decide +kernel
theorem dX5_counted_156 : decode cX5_counted 156 = .ok (.iload 4, 2) := by decide +kernel
theorem dX5_counted_158 : decode cX5_counted 158 = .ok (.ifCond .le 8, 3) := by decide +kernel
theorem dX5_counted_161 : decode cX5_counted 161 = .ok (.iload 4, 2) := by decide +kernel
theorem dX5_counted_163 : decode cX5_counted 163 = .ok (.goto 4, 3) := by decide +kernel
theorem dX5_counted_166 : decode cX5_counted 166 = .ok (.iconst 0, 1) := by decide +kernel
theorem dX5_counted_167 : decode cX5_counted 167 = .ok (.iadd, 1) := by decide +kernel
theorem dX5_counted_168 : decode cX5_counted 168 = .ok (.istore_n 2, 1) := by decide +kernel
theorem dX5_counted_169 : decode cX5_counted 169 = .ok (.iinc 3 1, 3) := by decide +kernel
theorem dX5_counted_172 : decode cX5_counted 172 = .ok (.goto (-85), 3) := by decide +kernel
theorem dX5_counted_175 : decode cX5_counted 175 = .ok (.iload_n 2, 1) := by decide +kernel
theorem dX5_counted_176 : decode cX5_counted 176 = .ok (.ireturn, 1) := by decide +kernel
set_option maxRecDepth 20000 in
theorem ggX5_count_X5_in : GoodIn wsX5_count wsX5_in := goodIn_r _ [5] (by decide +kernel) (by decide +kernel)
set_option maxRecDepth 20000 in
theorem gX5_count_X5_in : GoodIn wsX5_count (va_wsS RX5 32 yX5_in wsX5_in) := goodIn_app (goodIn_of _ (by decide +kernel)) ggX5_count_X5_in
set_option maxRecDepth 20000 in
theorem ggX5_count_X5_counted : GoodIn wsX5_count wsX5_counted := goodIn_r _ [9, 10, 11, 12, 13, 4, 14, 15, 16, 17, 18, 19, 20, 21, 22, 23, 24, 25, 26, 27, 28, 29, 30, 31, 32, 33, 34, 35, 2, 3, 5, 36, 37, 38, 39, 40, 41, 42, 43, 44, 45, 46, 47, 48, 49, 50, 51, 52, 53, 54, 59, 60, 61, 62, 63, 64, 65, 66, 67, 68, 69, 70, 71, 72] (by decide +kernel) (by decide +kernel)
set_option maxRecDepth 20000 in
theorem gX5_count_X5_counted : GoodIn wsX5_count (wsV RX5 146 RX5 yX5_counted wsX5_counted) := goodIn_app (goodIn_of _ (by decide +kernel)) ggX5_count_X5_counted
set_option maxRecDepth 20000 in
theorem ggX5_count_X5_fails : GoodIn wsX5_count wsX5_fails := goodIn_r _ [58, 1, 59, 60, 61, 62, 63, 64, 65, 66, 67, 68, 69, 70, 71, 72] (by decide +kernel) (by decide +kernel)
set_option maxRecDepth 20000 in
theorem gX5_count_X5_fails : GoodIn wsX5_count (wsV RX5 43 RX5 yX5_fails wsX5_fails) := goodIn_app (goodIn_of _ (by decide +kernel)) ggX5_count_X5_fails
theorem dX5_count_0 : decode cX5_count 0 = .ok (.aload_n 0, 1) := by decide +kernel
theorem dX5_count_1 : decode cX5_count 1 = .ok (.iconst 0, 1) := by decide +kernel
theorem dX5_count_2 : decode cX5_count 2 = .ok (.putfield 28, 3) := by decide +kernel
theorem dX5_count_5 : decode cX5_count 5 = .ok (.iload_n 1, 1) := by decide +kernel
theorem dX5_count_6 : decode cX5_count 6 = .ok (.iconst 0, 1) := by decide +kernel
theorem dX5_count_7 : decode cX5_count 7 = .ok (.bipush 8, 2) := by decide +kernel
theorem dX5_count_9 : decode cX5_count 9 = .ok (.invokestatic 32, 3) := by decide +kernel
theorem dX5_count_12 : decode cX5_count 12 = .ok (.ifCond .eq 11, 3) := by decide +kernel
theorem dX5_count_15 : decode cX5_count 15 = .ok (.aload_n 0, 1) := by decide +kernel
theorem dX5_count_16 : decode cX5_count 16 = .ok (.iload_n 1, 1) := by decide +kernel
theorem dX5_count_17 : decode cX5_count 17 = .ok (.invokevirtual 146, 3) := by decide +kernel
theorem dX5_count_20 : decode cX5_count 20 = .ok (.goto 8, 3) := by decide +kernel
theorem dX5_count_23 : decode cX5_count 23 = .ok (.aload_n 0, 1) := by decide +kernel
theorem dX5_count_24 : decode cX5_count 24 = .ok (.iconst 1, 1) := by decide +kernel
theorem dX5_count_25 : decode cX5_count 25 = .ok (.invokevirtual 43, 3) := by decide +kernel
theorem dX5_count_28 : decode cX5_count 28 = .ok (.ireturn, 1) := by decide +kernel
theorem dX5_towards_0 : decode cX5_towards 0 = .ok (.iconst 0, 1) := by decide +kernel
theorem dX5_towards_1 : decode cX5_towards 1 = .ok (.istore_n 2, 1) := by decide +kernel
theorem dX5_towards_2 : decode cX5_towards 2 = .ok (.iconst 0, 1) := by decide +kernel
theorem dX5_towards_3 : decode cX5_towards 3 = .ok (.istore_n 3, 1) := by decide +kernel
theorem dX5_towards_4 : decode cX5_towards 4 = .ok (.iload_n 3, 1) := by decide +kernel
theorem dX5_towards_5 : decode cX5_towards 5 = .ok (.bipush 36, 2) := by decide +kernel
theorem dX5_towards_7 : decode cX5_towards 7 = .ok (.if_icmp .ge 30, 3) := by decide +kernel
theorem dX5_towards_10 : decode cX5_towards 10 = .ok (.iload_n 2, 1) := by decide +kernel
theorem dX5_towards_11 : decode cX5_towards 11 = .ok (.aload_n 0, 1) := by decide +kernel
theorem dX5_towards_12 : decode cX5_towards 12 = .ok (.getfield 7, 3) := by decide +kernel
theorem dX5_towards_15 : decode cX5_towards 15 = .ok (.bipush 6, 2) := by decide +kernel
theorem dX5_towards_17 : decode cX5_towards 17 = .ok (.iload_n 3, 1) := by decide +kernel
theorem dX5_towards_18 : decode cX5_towards 18 = .ok (.iadd, 1) := by decide +kernel
theorem dX5_towards_19 : decode cX5_towards 19 = .ok (.iaload, 1) := by decide +kernel
theorem dX5_towards_20 : decode cX5_towards 20 = .ok (.iload_n 1, 1) := by decide +kernel
theorem dX5_towards_21 : decode cX5_towards 21 = .ok (.if_icmp .ne 7, 3) := by decide +kernel
theorem dX5_towards_24 : decode cX5_towards 24 = .ok (.iconst 1, 1) := by decide +kernel
theorem dX5_towards_25 : decode cX5_towards 25 = .ok (.goto 4, 3) := by decide +kernel
theorem dX5_towards_28 : decode cX5_towards 28 = .ok (.iconst 0, 1) := by decide +kernel
theorem dX5_towards_29 : decode cX5_towards 29 = .ok (.iadd, 1) := by decide +kernel
theorem dX5_towards_30 : decode cX5_towards 30 = .ok (.istore_n 2, 1) := by decide +kernel
theorem dX5_towards_31 : decode cX5_towards 31 = .ok (.iinc 3 1, 3) := by decide +kernel
theorem dX5_towards_34 : decode cX5_towards 34 = .ok (.goto (-30), 3) := by decide +kernel
theorem dX5_towards_37 : decode cX5_towards 37 = .ok (.iload_n 2, 1) := by decide +kernel
theorem dX5_towards_38 : decode cX5_towards 38 = .ok (.ireturn, 1) := by decide +kernel
set_option maxRecDepth 20000 in
theorem ggX5_pointing_X5_isDirection : GoodIn wsX5_pointing wsX5_isDirection := goodIn_r _ [5, 6, 7, 4, 8] (by decide +kernel) (by decide +kernel)
set_option maxRecDepth 20000 in
theorem gX5_pointing_X5_isDirection : GoodIn wsX5_pointing (va_wsS RX5 85 yX5_isDirection wsX5_isDirection) := goodIn_app (goodIn_of _ (by decide +kernel)) ggX5_pointing_X5_isDirection
set_option maxRecDepth 20000 in
theorem ggX5_pointing_X5_towards : GoodIn wsX5_pointing wsX5_towards := goodIn_r _ [12, 13, 18, 19, 20, 21, 22, 23, 24, 25, 26, 27, 28, 29, 30, 31] (by decide +kernel) (by decide +kernel)
set_option maxRecDepth 20000 in
theorem gX5_pointing_X5_towards : GoodIn wsX5_pointing (wsV RX5 149 RX5 yX5_towards wsX5_towards) := goodIn_app (goodIn_of _ (by decide +kernel)) ggX5_pointing_X5_towards
set_option maxRecDepth 20000 in
theorem ggX5_pointing_X5_fails : GoodIn wsX5_pointing wsX5_fails := goodIn_r _ [17, 1, 18, 19, 20, 21, 22, 23, 24, 25, 26, 27, 28, 29, 30, 31] (by decide +kernel) (by decide +kernel)
set_option maxRecDepth 20000 in
theorem gX5_pointing_X5_fails : GoodIn wsX5_pointing (wsV RX5 43 RX5 yX5_fails wsX5_fails) := goodIn_app (goodIn_of _ (by decide +kernel)) ggX5_pointing_X5_fails
theorem dX5_pointing_0 : decode cX5_pointing 0 = .ok (.aload_n 0, 1) := by decide +kernel
theorem dX5_pointing_1 : decode cX5_pointing 1 = .ok (.iconst 0, 1) := by decide +kernel
theorem dX5_pointing_2 : decode cX5_pointing 2 = .ok (.putfield 28, 3) := by decide +kernel
theorem dX5_pointing_5 : decode cX5_pointing 5 = .ok (.iload_n 1, 1) := by decide +kernel
theorem dX5_pointing_6 : decode cX5_pointing 6 = .ok (.invokestatic 85, 3) := by decide +kernel
theorem dX5_pointing_9 : decode cX5_pointing 9 = .ok (.ifCond .eq 11, 3) := by decide +kernel
theorem dX5_pointing_12 : decode cX5_pointing 12 = .ok (.aload_n 0, 1) := by decide +kernel
theorem dX5_pointing_13 : decode cX5_pointing 13 = .ok (.iload_n 1, 1) := by decide +kernel
theorem dX5_pointing_14 : decode cX5_pointing 14 = .ok (.invokevirtual 149, 3) := by decide +kernel
theorem dX5_pointing_17 : decode cX5_pointing 17 = .ok (.goto 8, 3) := by decide +kernel
theorem dX5_pointing_20 : decode cX5_pointing 20 = .ok (.aload_n 0, 1) := by decide +kernel
theorem dX5_pointing_21 : decode cX5_pointing 21 = .ok (.iconst 1, 1) := by decide +kernel
theorem dX5_pointing_22 : decode cX5_pointing 22 = .ok (.invokevirtual 43, 3) := by decide +kernel
theorem dX5_pointing_25 : decode cX5_pointing 25 = .ok (.ireturn, 1) := by decide +kernel
set_option maxRecDepth 20000 in
theorem ggX5_setting_X5_in : GoodIn wsX5_setting wsX5_in := goodIn_r _ [6] (by decide +kernel) (by decide +kernel)
set_option maxRecDepth 20000 in
theorem gX5_setting_X5_in : GoodIn wsX5_setting (va_wsS RX5 32 yX5_in wsX5_in) := goodIn_app (goodIn_of _ (by decide +kernel)) ggX5_setting_X5_in
set_option maxRecDepth 20000 in
theorem ggX5_setting_X5_fails : GoodIn wsX5_setting wsX5_fails := goodIn_r _ [10, 1, 11, 12, 13, 14, 15, 16, 17, 18, 19, 20, 21, 22, 23, 24] (by decide +kernel) (by decide +kernel)
set_option maxRecDepth 20000 in
theorem gX5_setting_X5_fails : GoodIn wsX5_setting (wsV RX5 43 RX5 yX5_fails wsX5_fails) := goodIn_app (goodIn_of _ (by decide +kernel)) ggX5_setting_X5_fails
theorem dX5_setting_0 : decode cX5_setting 0 = .ok (.aload_n 0, 1) := by decide +kernel
theorem dX5_setting_1 : decode cX5_setting 1 = .ok (.iconst 0, 1) := by decide +kernel
theorem dX5_setting_2 : decode cX5_setting 2 = .ok (.putfield 28, 3) := by decide +kernel
theorem dX5_setting_5 : decode cX5_setting 5 = .ok (.iload_n 1, 1) := by decide +kernel
theorem dX5_setting_6 : decode cX5_setting 6 = .ok (.iconst 0, 1) := by decide +kernel
theorem dX5_setting_7 : decode cX5_setting 7 = .ok (.iconst 2, 1) := by decide +kernel
theorem dX5_setting_8 : decode cX5_setting 8 = .ok (.invokestatic 32, 3) := by decide +kernel
theorem dX5_setting_11 : decode cX5_setting 11 = .ok (.ifCond .eq 12, 3) := by decide +kernel
theorem dX5_setting_14 : decode cX5_setting 14 = .ok (.aload_n 0, 1) := by decide +kernel
theorem dX5_setting_15 : decode cX5_setting 15 = .ok (.getfield 7, 3) := by decide +kernel
theorem dX5_setting_18 : decode cX5_setting 18 = .ok (.iload_n 1, 1) := by decide +kernel
theorem dX5_setting_19 : decode cX5_setting 19 = .ok (.iaload, 1) := by decide +kernel
theorem dX5_setting_20 : decode cX5_setting 20 = .ok (.goto 8, 3) := by decide +kernel
theorem dX5_setting_23 : decode cX5_setting 23 = .ok (.aload_n 0, 1) := by decide +kernel
theorem dX5_setting_24 : decode cX5_setting 24 = .ok (.iconst 1, 1) := by decide +kernel
theorem dX5_setting_25 : decode cX5_setting 25 = .ok (.invokevirtual 43, 3) := by decide +kernel
theorem dX5_setting_28 : decode cX5_setting 28 = .ok (.ireturn, 1) := by decide +kernel
set_option maxRecDepth 20000 in
theorem ggX5_rests_X5_copies : GoodIn wsX5_rests wsX5_copies := goodIn_r _ [6] (by decide +kernel) (by decide +kernel)
set_option maxRecDepth 20000 in
theorem gX5_rests_X5_copies : GoodIn wsX5_rests (va_wsS RX5 39 yX5_copies wsX5_copies) := goodIn_app (goodIn_of _ (by decide +kernel)) ggX5_rests_X5_copies
set_option maxRecDepth 20000 in
theorem ggX5_rests_X5_allTurn : GoodIn wsX5_rests wsX5_allTurn := goodIn_r _ [10, 11, 12, 13, 14, 5, 15, 16, 17, 18, 19, 20, 21, 22, 23, 24, 25, 26, 27, 28, 29, 30, 31, 32, 33, 34, 35, 36, 37, 38, 39, 40, 41, 42, 43, 44, 45, 46, 47, 48, 49, 50, 51, 52, 53, 54, 55, 56, 57, 58, 59] (by decide +kernel) (by decide +kernel)
set_option maxRecDepth 20000 in
theorem gX5_rests_X5_allTurn : GoodIn wsX5_rests (wsV RX5 107 RX5 yX5_allTurn wsX5_allTurn) := goodIn_app (goodIn_of _ (by decide +kernel)) ggX5_rests_X5_allTurn
theorem dX5_rests_0 : decode cX5_rests 0 = .ok (.aload_n 0, 1) := by decide +kernel
theorem dX5_rests_1 : decode cX5_rests 1 = .ok (.getfield 7, 3) := by decide +kernel
theorem dX5_rests_4 : decode cX5_rests 4 = .ok (.iconst 0, 1) := by decide +kernel
theorem dX5_rests_5 : decode cX5_rests 5 = .ok (.aload_n 0, 1) := by decide +kernel
theorem dX5_rests_6 : decode cX5_rests 6 = .ok (.getfield 13, 3) := by decide +kernel
theorem dX5_rests_9 : decode cX5_rests 9 = .ok (.iconst 0, 1) := by decide +kernel
theorem dX5_rests_10 : decode cX5_rests 10 = .ok (.invokestatic 39, 3) := by decide +kernel
theorem dX5_rests_13 : decode cX5_rests 13 = .ok (.iconst 0, 1) := by decide +kernel
theorem dX5_rests_14 : decode cX5_rests 14 = .ok (.istore_n 1, 1) := by decide +kernel
theorem dX5_rests_15 : decode cX5_rests 15 = .ok (.iload_n 1, 1) := by decide +kernel
theorem dX5_rests_16 : decode cX5_rests 16 = .ok (.bipush 100, 2) := by decide +kernel
theorem dX5_rests_18 : decode cX5_rests 18 = .ok (.if_icmp .gt 22, 3) := by decide +kernel
theorem dX5_rests_21 : decode cX5_rests 21 = .ok (.aload_n 0, 1) := by decide +kernel
theorem dX5_rests_22 : decode cX5_rests 22 = .ok (.aload_n 0, 1) := by decide +kernel
theorem dX5_rests_23 : decode cX5_rests 23 = .ok (.getfield 13, 3) := by decide +kernel
theorem dX5_rests_26 : decode cX5_rests 26 = .ok (.invokevirtual 107, 3) := by decide +kernel
theorem dX5_rests_29 : decode cX5_rests 29 = .ok (.ifCond .ne 5, 3) := by decide +kernel
theorem dX5_rests_32 : decode cX5_rests 32 = .ok (.iload_n 1, 1) := by decide +kernel
theorem dX5_rests_33 : decode cX5_rests 33 = .ok (.ireturn, 1) := by decide +kernel
theorem dX5_rests_34 : decode cX5_rests 34 = .ok (.iinc 1 1, 3) := by decide +kernel
theorem dX5_rests_37 : decode cX5_rests 37 = .ok (.goto (-22), 3) := by decide +kernel
theorem dX5_rests_40 : decode cX5_rests 40 = .ok (.iconst (-1), 1) := by decide +kernel
theorem dX5_rests_41 : decode cX5_rests 41 = .ok (.ireturn, 1) := by decide +kernel
set_option maxRecDepth 20000 in
theorem ggX5_restsIn_X5_rests : GoodIn wsX5_restsIn wsX5_rests := goodIn_r _ [6, 7, 8, 9, 10, 5, 11, 12, 13, 14, 15, 16, 17, 18, 19, 20, 21, 22, 23, 24, 25, 26, 27, 28, 29, 30, 31, 32, 33, 34, 35, 36, 37, 38, 39, 40, 41, 42, 43, 44, 45, 46, 47, 48, 49, 50, 51, 52, 53, 54, 55, 56, 57, 58, 59, 60, 61, 62, 63, 64] (by decide +kernel) (by decide +kernel)
set_option maxRecDepth 20000 in
theorem gX5_restsIn_X5_rests : GoodIn wsX5_restsIn (wsV RX5 152 RX5 yX5_rests wsX5_rests) := goodIn_app (goodIn_of _ (by decide +kernel)) ggX5_restsIn_X5_rests
theorem dX5_restsIn_0 : decode cX5_restsIn 0 = .ok (.aload_n 0, 1) := by decide +kernel
theorem dX5_restsIn_1 : decode cX5_restsIn 1 = .ok (.iconst 0, 1) := by decide +kernel
theorem dX5_restsIn_2 : decode cX5_restsIn 2 = .ok (.putfield 28, 3) := by decide +kernel
theorem dX5_restsIn_5 : decode cX5_restsIn 5 = .ok (.aload_n 0, 1) := by decide +kernel
theorem dX5_restsIn_6 : decode cX5_restsIn 6 = .ok (.invokevirtual 152, 3) := by decide +kernel
theorem dX5_restsIn_9 : decode cX5_restsIn 9 = .ok (.ireturn, 1) := by decide +kernel
set_option maxRecDepth 20000 in
theorem ggX5_pointed_X5_copies : GoodIn wsX5_pointed wsX5_copies := goodIn_r _ [6] (by decide +kernel) (by decide +kernel)
set_option maxRecDepth 20000 in
theorem gX5_pointed_X5_copies : GoodIn wsX5_pointed (va_wsS RX5 39 yX5_copies wsX5_copies) := goodIn_app (goodIn_of _ (by decide +kernel)) ggX5_pointed_X5_copies
set_option maxRecDepth 20000 in
theorem ggX5_pointed_X5_allTurn : GoodIn wsX5_pointed wsX5_allTurn := goodIn_r _ [10, 11, 12, 13, 14, 5, 15, 16, 17, 18, 19, 20, 21, 22, 23, 24, 25, 26, 27, 28, 29, 30, 31, 32, 33, 34, 35, 36, 37, 38, 39, 40, 41, 42, 43, 44, 45, 46, 47, 48, 49, 50, 51, 52, 53, 54, 55, 56, 57, 58, 59] (by decide +kernel) (by decide +kernel)
set_option maxRecDepth 20000 in
theorem gX5_pointed_X5_allTurn : GoodIn wsX5_pointed (wsV RX5 107 RX5 yX5_allTurn wsX5_allTurn) := goodIn_app (goodIn_of _ (by decide +kernel)) ggX5_pointed_X5_allTurn
theorem dX5_pointed_0 : decode cX5_pointed 0 = .ok (.aload_n 0, 1) := by decide +kernel
theorem dX5_pointed_1 : decode cX5_pointed 1 = .ok (.getfield 7, 3) := by decide +kernel
theorem dX5_pointed_4 : decode cX5_pointed 4 = .ok (.iconst 0, 1) := by decide +kernel
theorem dX5_pointed_5 : decode cX5_pointed 5 = .ok (.aload_n 0, 1) := by decide +kernel
theorem dX5_pointed_6 : decode cX5_pointed 6 = .ok (.getfield 13, 3) := by decide +kernel
theorem dX5_pointed_9 : decode cX5_pointed 9 = .ok (.iconst 0, 1) := by decide +kernel
theorem dX5_pointed_10 : decode cX5_pointed 10 = .ok (.invokestatic 39, 3) := by decide +kernel
theorem dX5_pointed_13 : decode cX5_pointed 13 = .ok (.iconst 0, 1) := by decide +kernel
theorem dX5_pointed_14 : decode cX5_pointed 14 = .ok (.istore_n 3, 1) := by decide +kernel
theorem dX5_pointed_15 : decode cX5_pointed 15 = .ok (.iload_n 3, 1) := by decide +kernel
theorem dX5_pointed_16 : decode cX5_pointed 16 = .ok (.iload_n 2, 1) := by decide +kernel
theorem dX5_pointed_17 : decode cX5_pointed 17 = .ok (.if_icmp .ge 18, 3) := by decide +kernel
theorem dX5_pointed_20 : decode cX5_pointed 20 = .ok (.aload_n 0, 1) := by decide +kernel
theorem dX5_pointed_21 : decode cX5_pointed 21 = .ok (.aload_n 0, 1) := by decide +kernel
theorem dX5_pointed_22 : decode cX5_pointed 22 = .ok (.getfield 13, 3) := by decide +kernel
theorem dX5_pointed_25 : decode cX5_pointed 25 = .ok (.invokevirtual 107, 3) := by decide +kernel
theorem dX5_pointed_28 : decode cX5_pointed 28 = .ok (.pop, 1) := by decide +kernel
theorem dX5_pointed_29 : decode cX5_pointed 29 = .ok (.iinc 3 1, 3) := by decide +kernel
theorem dX5_pointed_32 : decode cX5_pointed 32 = .ok (.goto (-17), 3) := by decide +kernel
theorem dX5_pointed_35 : decode cX5_pointed 35 = .ok (.aload_n 0, 1) := by decide +kernel
theorem dX5_pointed_36 : decode cX5_pointed 36 = .ok (.getfield 13, 3) := by decide +kernel
theorem dX5_pointed_39 : decode cX5_pointed 39 = .ok (.bipush 6, 2) := by decide +kernel
theorem dX5_pointed_41 : decode cX5_pointed 41 = .ok (.iload_n 1, 1) := by decide +kernel
theorem dX5_pointed_42 : decode cX5_pointed 42 = .ok (.iadd, 1) := by decide +kernel
theorem dX5_pointed_43 : decode cX5_pointed 43 = .ok (.iaload, 1) := by decide +kernel
theorem dX5_pointed_44 : decode cX5_pointed 44 = .ok (.ireturn, 1) := by decide +kernel
set_option maxRecDepth 20000 in
theorem ggX5_points_X5_isCell : GoodIn wsX5_points wsX5_isCell := goodIn_r _ [5, 6, 7, 4, 8] (by decide +kernel) (by decide +kernel)
set_option maxRecDepth 20000 in
theorem gX5_points_X5_isCell : GoodIn wsX5_points (va_wsS RX5 81 yX5_isCell wsX5_isCell) := goodIn_app (goodIn_of _ (by decide +kernel)) ggX5_points_X5_isCell
set_option maxRecDepth 20000 in
theorem ggX5_points_X5_fails : GoodIn wsX5_points wsX5_fails := goodIn_r _ [12, 1, 58, 59, 60, 61, 62, 63, 64, 65, 66, 67, 68, 69, 70, 71] (by decide +kernel) (by decide +kernel)
set_option maxRecDepth 20000 in
theorem gX5_points_X5_fails : GoodIn wsX5_points (wsV RX5 43 RX5 yX5_fails wsX5_fails) := goodIn_app (goodIn_of _ (by decide +kernel)) ggX5_points_X5_fails
set_option maxRecDepth 20000 in
theorem ggX5_points_X5_in : GoodIn wsX5_points wsX5_in := goodIn_r _ [8] (by decide +kernel) (by decide +kernel)
set_option maxRecDepth 20000 in
theorem gX5_points_X5_in : GoodIn wsX5_points (va_wsS RX5 32 yX5_in wsX5_in) := goodIn_app (goodIn_of _ (by decide +kernel)) ggX5_points_X5_in
set_option maxRecDepth 20000 in
theorem ggX5_points_X5_pointed : GoodIn wsX5_points wsX5_pointed := goodIn_r _ [16, 17, 18, 19, 20, 4, 21, 22, 23, 24, 25, 26, 27, 28, 29, 30, 31, 32, 33, 34, 35, 36, 37, 38, 39, 40, 41, 42, 43, 44, 45, 46, 47, 6, 7, 8, 48, 49, 50, 51, 52, 53, 54, 55, 56, 57, 58, 59, 60, 61, 62, 63, 64, 65, 66, 67, 68, 69, 70, 71] (by decide +kernel) (by decide +kernel)
set_option maxRecDepth 20000 in
theorem gX5_points_X5_pointed : GoodIn wsX5_points (wsV RX5 156 RX5 yX5_pointed wsX5_pointed) := goodIn_app (goodIn_of _ (by decide +kernel)) ggX5_points_X5_pointed
theorem dX5_points_0 : decode cX5_points 0 = .ok (.aload_n 0, 1) := by decide +kernel
theorem dX5_points_1 : decode cX5_points 1 = .ok (.iconst 0, 1) := by decide +kernel
theorem dX5_points_2 : decode cX5_points 2 = .ok (.putfield 28, 3) := by decide +kernel
theorem dX5_points_5 : decode cX5_points 5 = .ok (.iload_n 1, 1) := by decide +kernel
theorem dX5_points_6 : decode cX5_points 6 = .ok (.invokestatic 81, 3) := by decide +kernel
theorem dX5_points_9 : decode cX5_points 9 = .ok (.ifCond .ne 9, 3) := by decide +kernel
theorem dX5_points_12 : decode cX5_points 12 = .ok (.aload_n 0, 1) := by decide +kernel
theorem dX5_points_13 : decode cX5_points 13 = .ok (.iconst 1, 1) := by decide +kernel
theorem dX5_points_14 : decode cX5_points 14 = .ok (.invokevirtual 43, 3) := by decide +kernel
theorem dX5_points_17 : decode cX5_points 17 = .ok (.ireturn, 1) := by decide +kernel
theorem dX5_points_18 : decode cX5_points 18 = .ok (.iload_n 2, 1) := by decide +kernel
theorem dX5_points_19 : decode cX5_points 19 = .ok (.iconst 0, 1) := by decide +kernel
theorem dX5_points_20 : decode cX5_points 20 = .ok (.bipush 100, 2) := by decide +kernel
theorem dX5_points_22 : decode cX5_points 22 = .ok (.invokestatic 32, 3) := by decide +kernel
theorem dX5_points_25 : decode cX5_points 25 = .ok (.ifCond .eq 12, 3) := by decide +kernel
theorem dX5_points_28 : decode cX5_points 28 = .ok (.aload_n 0, 1) := by decide +kernel
theorem dX5_points_29 : decode cX5_points 29 = .ok (.iload_n 1, 1) := by decide +kernel
theorem dX5_points_30 : decode cX5_points 30 = .ok (.iload_n 2, 1) := by decide +kernel
theorem dX5_points_31 : decode cX5_points 31 = .ok (.invokevirtual 156, 3) := by decide +kernel
theorem dX5_points_34 : decode cX5_points 34 = .ok (.goto 8, 3) := by decide +kernel
theorem dX5_points_37 : decode cX5_points 37 = .ok (.aload_n 0, 1) := by decide +kernel
theorem dX5_points_38 : decode cX5_points 38 = .ok (.iconst 2, 1) := by decide +kernel
theorem dX5_points_39 : decode cX5_points 39 = .ok (.invokevirtual 43, 3) := by decide +kernel
theorem dX5_points_42 : decode cX5_points 42 = .ok (.ireturn, 1) := by decide +kernel
set_option maxRecDepth 20000 in
theorem ggX5_byBar_X5_copies : GoodIn wsX5_byBar wsX5_copies := goodIn_r _ [6] (by decide +kernel) (by decide +kernel)
set_option maxRecDepth 20000 in
theorem gX5_byBar_X5_copies : GoodIn wsX5_byBar (va_wsS RX5 39 yX5_copies wsX5_copies) := goodIn_app (goodIn_of _ (by decide +kernel)) ggX5_byBar_X5_copies
set_option maxRecDepth 20000 in
theorem ggX5_byBar_X5_laysBar : GoodIn wsX5_byBar wsX5_laysBar := goodIn_r _ [9] (by decide +kernel) (by decide +kernel)
set_option maxRecDepth 20000 in
theorem gX5_byBar_X5_laysBar : GoodIn wsX5_byBar (va_wsS RX5 103 yX5_laysBar wsX5_laysBar) := goodIn_app (goodIn_of _ (by decide +kernel)) ggX5_byBar_X5_laysBar
set_option maxRecDepth 20000 in
theorem ggX5_byBar_X5_aim : GoodIn wsX5_byBar wsX5_aim := goodIn_r _ [13, 14, 15, 16, 17, 18, 5, 19, 20, 21, 22, 23, 24, 25, 26, 27, 28, 29, 30, 31, 32, 33, 34, 35, 36, 37, 38, 39, 40, 41, 42, 43, 44, 45, 46, 47, 48, 49, 50, 51, 52, 53] (by decide +kernel) (by decide +kernel)
set_option maxRecDepth 20000 in
theorem gX5_byBar_X5_aim : GoodIn wsX5_byBar (wsV RX5 74 RX5 yX5_aim wsX5_aim) := goodIn_app (goodIn_of _ (by decide +kernel)) ggX5_byBar_X5_aim
theorem dX5_byBar_0 : decode cX5_byBar 0 = .ok (.aload_n 0, 1) := by decide +kernel
theorem dX5_byBar_1 : decode cX5_byBar 1 = .ok (.getfield 7, 3) := by decide +kernel
theorem dX5_byBar_4 : decode cX5_byBar 4 = .ok (.iconst 0, 1) := by decide +kernel
theorem dX5_byBar_5 : decode cX5_byBar 5 = .ok (.aload_n 0, 1) := by decide +kernel
theorem dX5_byBar_6 : decode cX5_byBar 6 = .ok (.getfield 13, 3) := by decide +kernel
theorem dX5_byBar_9 : decode cX5_byBar 9 = .ok (.iconst 0, 1) := by decide +kernel
theorem dX5_byBar_10 : decode cX5_byBar 10 = .ok (.invokestatic 39, 3) := by decide +kernel
theorem dX5_byBar_13 : decode cX5_byBar 13 = .ok (.aload_n 0, 1) := by decide +kernel
theorem dX5_byBar_14 : decode cX5_byBar 14 = .ok (.getfield 13, 3) := by decide +kernel
theorem dX5_byBar_17 : decode cX5_byBar 17 = .ok (.iload_n 1, 1) := by decide +kernel
theorem dX5_byBar_18 : decode cX5_byBar 18 = .ok (.iload_n 2, 1) := by decide +kernel
theorem dX5_byBar_19 : decode cX5_byBar 19 = .ok (.iload_n 3, 1) := by decide +kernel
theorem dX5_byBar_20 : decode cX5_byBar 20 = .ok (.invokestatic 103, 3) := by decide +kernel
theorem dX5_byBar_23 : decode cX5_byBar 23 = .ok (.iconst 0, 1) := by decide +kernel
theorem dX5_byBar_24 : decode cX5_byBar 24 = .ok (.istore 4, 2) := by decide +kernel
theorem dX5_byBar_26 : decode cX5_byBar 26 = .ok (.iconst 0, 1) := by decide +kernel
theorem dX5_byBar_27 : decode cX5_byBar 27 = .ok (.istore 5, 2) := by decide +kernel
theorem dX5_byBar_29 : decode cX5_byBar 29 = .ok (.iload 5, 2) := by decide +kernel
theorem dX5_byBar_31 : decode cX5_byBar 31 = .ok (.bipush 36, 2) := by decide +kernel
theorem dX5_byBar_33 : decode cX5_byBar 33 = .ok (.if_icmp .ge 42, 3) := by decide +kernel
theorem dX5_byBar_36 : decode cX5_byBar 36 = .ok (.iload 4, 2) := by decide +kernel
theorem dX5_byBar_38 : decode cX5_byBar 38 = .ok (.aload_n 0, 1) := by decide +kernel
theorem dX5_byBar_39 : decode cX5_byBar 39 = .ok (.aload_n 0, 1) := by decide +kernel
theorem dX5_byBar_40 : decode cX5_byBar 40 = .ok (.getfield 13, 3) := by decide +kernel
theorem dX5_byBar_43 : decode cX5_byBar 43 = .ok (.iload 5, 2) := by decide +kernel
theorem dX5_byBar_45 : decode cX5_byBar 45 = .ok (.invokevirtual 74, 3) := by decide +kernel
theorem dX5_byBar_48 : decode cX5_byBar 48 = .ok (.aload_n 0, 1) := by decide +kernel
theorem dX5_byBar_49 : decode cX5_byBar 49 = .ok (.aload_n 0, 1) := by decide +kernel
theorem dX5_byBar_50 : decode cX5_byBar 50 = .ok (.getfield 7, 3) := by decide +kernel
theorem dX5_byBar_53 : decode cX5_byBar 53 = .ok (.iload 5, 2) := by decide +kernel
theorem dX5_byBar_55 : decode cX5_byBar 55 = .ok (.invokevirtual 74, 3) := by decide +kernel
theorem dX5_byBar_58 : decode cX5_byBar 58 = .ok (.if_icmp .ne 7, 3) := by decide +kernel
theorem dX5_byBar_61 : decode cX5_byBar 61 = .ok (.iconst 0, 1) := by decide +kernel
theorem dX5_byBar_62 : decode cX5_byBar 62 = .ok (.goto 4, 3) := by decide +kernel
theorem dX5_byBar_65 : decode cX5_byBar 65 = .ok (.iconst 1, 1) := by decide +kernel
theorem dX5_byBar_66 : decode cX5_byBar 66 = .ok (.iadd, 1) := by decide +kernel
theorem dX5_byBar_67 : decode cX5_byBar 67 = .ok (.istore 4, 2) := by decide +kernel
theorem dX5_byBar_69 : decode cX5_byBar 69 = .ok (.iinc 5 1, 3) := by decide +kernel
theorem dX5_byBar_72 : decode cX5_byBar 72 = .ok (.goto (-43), 3) := by decide +kernel
theorem dX5_byBar_75 : decode cX5_byBar 75 = .ok (.iload 4, 2) := by decide +kernel
theorem dX5_byBar_77 : decode cX5_byBar 77 = .ok (.ireturn, 1) := by decide +kernel
set_option maxRecDepth 20000 in
theorem ggX5_ifBar_X5_isCell : GoodIn wsX5_ifBar wsX5_isCell := goodIn_r _ [5, 6, 7, 4, 8] (by decide +kernel) (by decide +kernel)
set_option maxRecDepth 20000 in
theorem gX5_ifBar_X5_isCell : GoodIn wsX5_ifBar (va_wsS RX5 81 yX5_isCell wsX5_isCell) := goodIn_app (goodIn_of _ (by decide +kernel)) ggX5_ifBar_X5_isCell
set_option maxRecDepth 20000 in
theorem ggX5_ifBar_X5_fails : GoodIn wsX5_ifBar wsX5_fails := goodIn_r _ [12, 1, 58, 59, 60, 61, 62, 63, 64, 65, 66, 67, 68, 69, 70, 71] (by decide +kernel) (by decide +kernel)
set_option maxRecDepth 20000 in
theorem gX5_ifBar_X5_fails : GoodIn wsX5_ifBar (wsV RX5 43 RX5 yX5_fails wsX5_fails) := goodIn_app (goodIn_of _ (by decide +kernel)) ggX5_ifBar_X5_fails
set_option maxRecDepth 20000 in
theorem ggX5_ifBar_X5_isBar : GoodIn wsX5_ifBar wsX5_isBar := goodIn_r _ [15, 16, 17, 4, 18, 6, 7, 8] (by decide +kernel) (by decide +kernel)
set_option maxRecDepth 20000 in
theorem gX5_ifBar_X5_isBar : GoodIn wsX5_ifBar (va_wsS RX5 95 yX5_isBar wsX5_isBar) := goodIn_app (goodIn_of _ (by decide +kernel)) ggX5_ifBar_X5_isBar
set_option maxRecDepth 20000 in
theorem ggX5_ifBar_X5_byBar : GoodIn wsX5_ifBar wsX5_byBar := goodIn_r _ [22, 23, 24, 25, 26, 4, 27, 28, 29, 30, 31, 32, 33, 34, 35, 36, 37, 38, 39, 40, 41, 42, 43, 44, 45, 46, 47, 6, 7, 8, 48, 49, 50, 51, 52, 53, 54, 55, 56, 57, 58, 59, 60, 61, 62, 63, 64, 65, 66, 67, 68, 69, 70, 71] (by decide +kernel) (by decide +kernel)
set_option maxRecDepth 20000 in
theorem gX5_ifBar_X5_byBar : GoodIn wsX5_ifBar (wsV RX5 159 RX5 yX5_byBar wsX5_byBar) := goodIn_app (goodIn_of _ (by decide +kernel)) ggX5_ifBar_X5_byBar
theorem dX5_ifBar_0 : decode cX5_ifBar 0 = .ok (.aload_n 0, 1) := by decide +kernel
theorem dX5_ifBar_1 : decode cX5_ifBar 1 = .ok (.iconst 0, 1) := by decide +kernel
theorem dX5_ifBar_2 : decode cX5_ifBar 2 = .ok (.putfield 28, 3) := by decide +kernel
theorem dX5_ifBar_5 : decode cX5_ifBar 5 = .ok (.iload_n 1, 1) := by decide +kernel
theorem dX5_ifBar_6 : decode cX5_ifBar 6 = .ok (.invokestatic 81, 3) := by decide +kernel
theorem dX5_ifBar_9 : decode cX5_ifBar 9 = .ok (.ifCond .ne 9, 3) := by decide +kernel
theorem dX5_ifBar_12 : decode cX5_ifBar 12 = .ok (.aload_n 0, 1) := by decide +kernel
theorem dX5_ifBar_13 : decode cX5_ifBar 13 = .ok (.iconst 1, 1) := by decide +kernel
theorem dX5_ifBar_14 : decode cX5_ifBar 14 = .ok (.invokevirtual 43, 3) := by decide +kernel
theorem dX5_ifBar_17 : decode cX5_ifBar 17 = .ok (.ireturn, 1) := by decide +kernel
theorem dX5_ifBar_18 : decode cX5_ifBar 18 = .ok (.iload_n 2, 1) := by decide +kernel
theorem dX5_ifBar_19 : decode cX5_ifBar 19 = .ok (.iload_n 3, 1) := by decide +kernel
theorem dX5_ifBar_20 : decode cX5_ifBar 20 = .ok (.invokestatic 95, 3) := by decide +kernel
theorem dX5_ifBar_23 : decode cX5_ifBar 23 = .ok (.ifCond .eq 13, 3) := by decide +kernel
theorem dX5_ifBar_26 : decode cX5_ifBar 26 = .ok (.aload_n 0, 1) := by decide +kernel
theorem dX5_ifBar_27 : decode cX5_ifBar 27 = .ok (.iload_n 1, 1) := by decide +kernel
theorem dX5_ifBar_28 : decode cX5_ifBar 28 = .ok (.iload_n 2, 1) := by decide +kernel
theorem dX5_ifBar_29 : decode cX5_ifBar 29 = .ok (.iload_n 3, 1) := by decide +kernel
theorem dX5_ifBar_30 : decode cX5_ifBar 30 = .ok (.invokevirtual 159, 3) := by decide +kernel
theorem dX5_ifBar_33 : decode cX5_ifBar 33 = .ok (.goto 8, 3) := by decide +kernel
theorem dX5_ifBar_36 : decode cX5_ifBar 36 = .ok (.aload_n 0, 1) := by decide +kernel
theorem dX5_ifBar_37 : decode cX5_ifBar 37 = .ok (.iconst 2, 1) := by decide +kernel
theorem dX5_ifBar_38 : decode cX5_ifBar 38 = .ok (.invokevirtual 43, 3) := by decide +kernel
theorem dX5_ifBar_41 : decode cX5_ifBar 41 = .ok (.ireturn, 1) := by decide +kernel
set_option maxRecDepth 20000 in
theorem ggX5_best_X5_copies : GoodIn wsX5_best wsX5_copies := goodIn_r _ [6] (by decide +kernel) (by decide +kernel)
set_option maxRecDepth 20000 in
theorem gX5_best_X5_copies : GoodIn wsX5_best (va_wsS RX5 39 yX5_copies wsX5_copies) := goodIn_app (goodIn_of _ (by decide +kernel)) ggX5_best_X5_copies
set_option maxRecDepth 20000 in
theorem ggX5_best_X5_laysBar : GoodIn wsX5_best wsX5_laysBar := goodIn_r _ [9] (by decide +kernel) (by decide +kernel)
set_option maxRecDepth 20000 in
theorem gX5_best_X5_laysBar : GoodIn wsX5_best (va_wsS RX5 103 yX5_laysBar wsX5_laysBar) := goodIn_app (goodIn_of _ (by decide +kernel)) ggX5_best_X5_laysBar
set_option maxRecDepth 20000 in
theorem ggX5_best_X5_aim : GoodIn wsX5_best wsX5_aim := goodIn_r _ [13, 14, 15, 16, 17, 18, 5, 19, 20, 21, 22, 23, 24, 25, 26, 27, 28, 29, 30, 31, 32, 33, 34, 35, 36, 37, 38, 39, 40, 41, 42, 43, 44, 45, 46, 47, 48, 49, 50, 51, 52, 53] (by decide +kernel) (by decide +kernel)
set_option maxRecDepth 20000 in
theorem gX5_best_X5_aim : GoodIn wsX5_best (wsV RX5 74 RX5 yX5_aim wsX5_aim) := goodIn_app (goodIn_of _ (by decide +kernel)) ggX5_best_X5_aim
theorem dX5_best_0 : decode cX5_best 0 = .ok (.aload_n 0, 1) := by decide +kernel
theorem dX5_best_1 : decode cX5_best 1 = .ok (.getfield 7, 3) := by decide +kernel
theorem dX5_best_4 : decode cX5_best 4 = .ok (.iconst 0, 1) := by decide +kernel
theorem dX5_best_5 : decode cX5_best 5 = .ok (.aload_n 0, 1) := by decide +kernel
theorem dX5_best_6 : decode cX5_best 6 = .ok (.getfield 13, 3) := by decide +kernel
theorem dX5_best_9 : decode cX5_best 9 = .ok (.iconst 0, 1) := by decide +kernel
theorem dX5_best_10 : decode cX5_best 10 = .ok (.invokestatic 39, 3) := by decide +kernel
theorem dX5_best_13 : decode cX5_best 13 = .ok (.iconst 0, 1) := by decide +kernel
theorem dX5_best_14 : decode cX5_best 14 = .ok (.istore 4, 2) := by decide +kernel
theorem dX5_best_16 : decode cX5_best 16 = .ok (.iload 4, 2) := by decide +kernel
theorem dX5_best_18 : decode cX5_best 18 = .ok (.sipush 288, 3) := by decide +kernel
theorem dX5_best_21 : decode cX5_best 21 = .ok (.if_icmp .ge 77, 3) := by decide +kernel
theorem dX5_best_24 : decode cX5_best 24 = .ok (.iload 4, 2) := by decide +kernel
theorem dX5_best_26 : decode cX5_best 26 = .ok (.bipush 8, 2) := by decide +kernel
theorem dX5_best_28 : decode cX5_best 28 = .ok (.idiv, 1) := by decide +kernel
theorem dX5_best_29 : decode cX5_best 29 = .ok (.istore 5, 2) := by decide +kernel
theorem dX5_best_31 : decode cX5_best 31 = .ok (.aload_n 0, 1) := by decide +kernel
theorem dX5_best_32 : decode cX5_best 32 = .ok (.getfield 13, 3) := by decide +kernel
theorem dX5_best_35 : decode cX5_best 35 = .ok (.iload 5, 2) := by decide +kernel
theorem dX5_best_37 : decode cX5_best 37 = .ok (.iload 4, 2) := by decide +kernel
theorem dX5_best_39 : decode cX5_best 39 = .ok (.bipush 8, 2) := by decide +kernel
theorem dX5_best_41 : decode cX5_best 41 = .ok (.irem, 1) := by decide +kernel
theorem dX5_best_42 : decode cX5_best 42 = .ok (.iload_n 3, 1) := by decide +kernel
theorem dX5_best_43 : decode cX5_best 43 = .ok (.invokestatic 103, 3) := by decide +kernel
theorem dX5_best_46 : decode cX5_best 46 = .ok (.aload_n 0, 1) := by decide +kernel
theorem dX5_best_47 : decode cX5_best 47 = .ok (.aload_n 0, 1) := by decide +kernel
theorem dX5_best_48 : decode cX5_best 48 = .ok (.getfield 13, 3) := by decide +kernel
theorem dX5_best_51 : decode cX5_best 51 = .ok (.iload_n 1, 1) := by decide +kernel
theorem dX5_best_52 : decode cX5_best 52 = .ok (.invokevirtual 74, 3) := by decide +kernel
theorem dX5_best_55 : decode cX5_best 55 = .ok (.iload_n 2, 1) := by decide +kernel
theorem dX5_best_56 : decode cX5_best 56 = .ok (.if_icmp .ne 6, 3) := by decide +kernel
theorem dX5_best_59 : decode cX5_best 59 = .ok (.iload 4, 2) := by decide +kernel
theorem dX5_best_61 : decode cX5_best 61 = .ok (.ireturn, 1) := by decide +kernel
theorem dX5_best_62 : decode cX5_best 62 = .ok (.aload_n 0, 1) := by decide +kernel
theorem dX5_best_63 : decode cX5_best 63 = .ok (.getfield 13, 3) := by decide +kernel
theorem dX5_best_66 : decode cX5_best 66 = .ok (.iload 5, 2) := by decide +kernel
theorem dX5_best_68 : decode cX5_best 68 = .ok (.aload_n 0, 1) := by decide +kernel
theorem dX5_best_69 : decode cX5_best 69 = .ok (.getfield 7, 3) := by decide +kernel
theorem dX5_best_72 : decode cX5_best 72 = .ok (.bipush 114, 2) := by decide +kernel
theorem dX5_best_74 : decode cX5_best 74 = .ok (.iload 5, 2) := by decide +kernel
theorem dX5_best_76 : decode cX5_best 76 = .ok (.iadd, 1) := by decide +kernel
theorem dX5_best_77 : decode cX5_best 77 = .ok (.iaload, 1) := by decide +kernel
theorem dX5_best_78 : decode cX5_best 78 = .ok (.aload_n 0, 1) := by decide +kernel
theorem dX5_best_79 : decode cX5_best 79 = .ok (.getfield 7, 3) := by decide +kernel
theorem dX5_best_82 : decode cX5_best 82 = .ok (.sipush 150, 3) := by decide +kernel
theorem dX5_best_85 : decode cX5_best 85 = .ok (.iload 5, 2) := by decide +kernel
theorem dX5_best_87 : decode cX5_best 87 = .ok (.iadd, 1) := by decide +kernel
theorem dX5_best_88 : decode cX5_best 88 = .ok (.iaload, 1) := by decide +kernel
theorem dX5_best_89 : decode cX5_best 89 = .ok (.invokestatic 103, 3) := by decide +kernel
theorem dX5_best_92 : decode cX5_best 92 = .ok (.iinc 4 1, 3) := by decide +kernel
theorem dX5_best_95 : decode cX5_best 95 = .ok (.goto (-79), 3) := by decide +kernel
theorem dX5_best_98 : decode cX5_best 98 = .ok (.iconst (-1), 1) := by decide +kernel
theorem dX5_best_99 : decode cX5_best 99 = .ok (.ireturn, 1) := by decide +kernel
set_option maxRecDepth 20000 in
theorem ggX5_bestBar_X5_isCell : GoodIn wsX5_bestBar wsX5_isCell := goodIn_r _ [5, 6, 7, 4, 8] (by decide +kernel) (by decide +kernel)
set_option maxRecDepth 20000 in
theorem gX5_bestBar_X5_isCell : GoodIn wsX5_bestBar (va_wsS RX5 81 yX5_isCell wsX5_isCell) := goodIn_app (goodIn_of _ (by decide +kernel)) ggX5_bestBar_X5_isCell
