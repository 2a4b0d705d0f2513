theorem dX5_init_0 : decode cX5_init 0 = .ok (.aload_n 0, 1) := by decide +kernel
theorem dX5_init_1 : decode cX5_init 1 = .ok (.invokespecial 1, 3) := by decide +kernel
theorem dX5_init_4 : decode cX5_init 4 = .ok (.aload_n 0, 1) := by decide +kernel
theorem dX5_init_5 : decode cX5_init 5 = .ok (.sipush 186, 3) := by decide +kernel
theorem dX5_init_8 : decode cX5_init 8 = .ok (.newarray .int, 2) := by decide +kernel
theorem dX5_init_10 : decode cX5_init 10 = .ok (.putfield 7, 3) := by decide +kernel
theorem dX5_init_13 : decode cX5_init 13 = .ok (.aload_n 0, 1) := by decide +kernel
theorem dX5_init_14 : decode cX5_init 14 = .ok (.sipush 186, 3) := by decide +kernel
theorem dX5_init_17 : decode cX5_init 17 = .ok (.newarray .int, 2) := by decide +kernel
theorem dX5_init_19 : decode cX5_init 19 = .ok (.putfield 13, 3) := by decide +kernel
theorem dX5_init_22 : decode cX5_init 22 = .ok (.aload_n 0, 1) := by decide +kernel
theorem dX5_init_23 : decode cX5_init 23 = .ok (.sipush 1116, 3) := by decide +kernel
theorem dX5_init_26 : decode cX5_init 26 = .ok (.newarray .int, 2) := by decide +kernel
theorem dX5_init_28 : decode cX5_init 28 = .ok (.putfield 16, 3) := by decide +kernel
theorem dX5_init_31 : decode cX5_init 31 = .ok (.aload_n 0, 1) := by decide +kernel
theorem dX5_init_32 : decode cX5_init 32 = .ok (.bipush 60, 2) := by decide +kernel
theorem dX5_init_34 : decode cX5_init 34 = .ok (.newarray .int, 2) := by decide +kernel
theorem dX5_init_36 : decode cX5_init 36 = .ok (.putfield 19, 3) := by decide +kernel
theorem dX5_init_39 : decode cX5_init 39 = .ok (.aload_n 0, 1) := by decide +kernel
theorem dX5_init_40 : decode cX5_init 40 = .ok (.bipush 18, 2) := by decide +kernel
theorem dX5_init_42 : decode cX5_init 42 = .ok (.newarray .int, 2) := by decide +kernel
theorem dX5_init_44 : decode cX5_init 44 = .ok (.putfield 22, 3) := by decide +kernel
theorem dX5_init_47 : decode cX5_init 47 = .ok (.aload_n 0, 1) := by decide +kernel
theorem dX5_init_48 : decode cX5_init 48 = .ok (.bipush 36, 2) := by decide +kernel
theorem dX5_init_50 : decode cX5_init 50 = .ok (.newarray .int, 2) := by decide +kernel
theorem dX5_init_52 : decode cX5_init 52 = .ok (.putfield 25, 3) := by decide +kernel
theorem dX5_init_55 : decode cX5_init 55 = .ok (.aload_n 0, 1) := by decide +kernel
theorem dX5_init_56 : decode cX5_init 56 = .ok (.getfield 7, 3) := by decide +kernel
theorem dX5_init_59 : decode cX5_init 59 = .ok (.iconst 0, 1) := by decide +kernel
theorem dX5_init_60 : decode cX5_init 60 = .ok (.bipush 20, 2) := by decide +kernel
theorem dX5_init_62 : decode cX5_init 62 = .ok (.iastore, 1) := by decide +kernel
theorem dX5_init_63 : decode cX5_init 63 = .ok (.aload_n 0, 1) := by decide +kernel
theorem dX5_init_64 : decode cX5_init 64 = .ok (.getfield 7, 3) := by decide +kernel
theorem dX5_init_67 : decode cX5_init 67 = .ok (.iconst 1, 1) := by decide +kernel
theorem dX5_init_68 : decode cX5_init 68 = .ok (.iconst 2, 1) := by decide +kernel
theorem dX5_init_69 : decode cX5_init 69 = .ok (.iastore, 1) := by decide +kernel
theorem dX5_init_70 : decode cX5_init 70 = .ok (.aload_n 0, 1) := by decide +kernel
theorem dX5_init_71 : decode cX5_init 71 = .ok (.getfield 7, 3) := by decide +kernel
theorem dX5_init_74 : decode cX5_init 74 = .ok (.iconst 2, 1) := by decide +kernel
theorem dX5_init_75 : decode cX5_init 75 = .ok (.iconst 3, 1) := by decide +kernel
theorem dX5_init_76 : decode cX5_init 76 = .ok (.iastore, 1) := by decide +kernel
theorem dX5_init_77 : decode cX5_init 77 = .ok (.iconst 0, 1) := by decide +kernel
theorem dX5_init_78 : decode cX5_init 78 = .ok (.istore_n 1, 1) := by decide +kernel
theorem dX5_init_79 : decode cX5_init 79 = .ok (.iload_n 1, 1) := by decide +kernel
theorem dX5_init_80 : decode cX5_init 80 = .ok (.bipush 36, 2) := by decide +kernel
theorem dX5_init_82 : decode cX5_init 82 = .ok (.if_icmp .ge 31, 3) := by decide +kernel
theorem dX5_init_85 : decode cX5_init 85 = .ok (.aload_n 0, 1) := by decide +kernel
theorem dX5_init_86 : decode cX5_init 86 = .ok (.getfield 7, 3) := by decide +kernel
theorem dX5_init_89 : decode cX5_init 89 = .ok (.bipush 6, 2) := by decide +kernel
theorem dX5_init_91 : decode cX5_init 91 = .ok (.iload_n 1, 1) := by decide +kernel
theorem dX5_init_92 : decode cX5_init 92 = .ok (.iadd, 1) := by decide +kernel
theorem dX5_init_93 : decode cX5_init 93 = .ok (.bipush 6, 2) := by decide +kernel
theorem dX5_init_95 : decode cX5_init 95 = .ok (.iastore, 1) := by decide +kernel
theorem dX5_init_96 : decode cX5_init 96 = .ok (.aload_n 0, 1) := by decide +kernel
theorem dX5_init_97 : decode cX5_init 97 = .ok (.getfield 7, 3) := by decide +kernel
theorem dX5_init_100 : decode cX5_init 100 = .ok (.bipush 42, 2) := by decide +kernel
theorem dX5_init_102 : decode cX5_init 102 = .ok (.iload_n 1, 1) := by decide +kernel
theorem dX5_init_103 : decode cX5_init 103 = .ok (.iadd, 1) := by decide +kernel
theorem dX5_init_104 : decode cX5_init 104 = .ok (.bipush 10, 2) := by decide +kernel
theorem dX5_init_106 : decode cX5_init 106 = .ok (.iastore, 1) := by decide +kernel
theorem dX5_init_107 : decode cX5_init 107 = .ok (.iinc 1 1, 3) := by decide +kernel
theorem dX5_init_110 : decode cX5_init 110 = .ok (.goto (-31), 3) := by decide +kernel
theorem dX5_init_113 : decode cX5_init 113 = .ok (.return_, 1) := by decide +kernel
theorem dX5_thrown_0 : decode cX5_thrown 0 = .ok (.aload_n 0, 1) := by decide +kernel
theorem dX5_thrown_1 : decode cX5_thrown 1 = .ok (.getfield 28, 3) := by decide +kernel
theorem dX5_thrown_4 : decode cX5_thrown 4 = .ok (.ireturn, 1) := by decide +kernel
theorem dX5_fails_0 : decode cX5_fails 0 = .ok (.aload_n 0, 1) := by decide +kernel
theorem dX5_fails_1 : decode cX5_fails 1 = .ok (.iload_n 1, 1) := by decide +kernel
theorem dX5_fails_2 : decode cX5_fails 2 = .ok (.putfield 28, 3) := by decide +kernel
theorem dX5_fails_5 : decode cX5_fails 5 = .ok (.iconst 0, 1) := by decide +kernel
theorem dX5_fails_6 : decode cX5_fails 6 = .ok (.ireturn, 1) := by decide +kernel
theorem dX5_in_0 : decode cX5_in 0 = .ok (.iload_n 0, 1) := by decide +kernel
theorem dX5_in_1 : decode cX5_in 1 = .ok (.iload_n 1, 1) := by decide +kernel
theorem dX5_in_2 : decode cX5_in 2 = .ok (.if_icmp .lt 12, 3) := by decide +kernel
theorem dX5_in_5 : decode cX5_in 5 = .ok (.iload_n 0, 1) := by decide +kernel
theorem dX5_in_6 : decode cX5_in 6 = .ok (.iload_n 2, 1) := by decide +kernel
theorem dX5_in_7 : decode cX5_in 7 = .ok (.if_icmp .gt 7, 3) := by decide +kernel
theorem dX5_in_10 : decode cX5_in 10 = .ok (.iconst 1, 1) := by decide +kernel
theorem dX5_in_11 : decode cX5_in 11 = .ok (.goto 4, 3) := by decide +kernel
theorem dX5_in_14 : decode cX5_in 14 = .ok (.iconst 0, 1) := by decide +kernel
theorem dX5_in_15 : decode cX5_in 15 = .ok (.ireturn, 1) := by decide +kernel
set_option maxRecDepth 20000 in
theorem ggX5_isCell_X5_in : GoodIn wsX5_isCell wsX5_in := goodIn_r _ [4] (by decide +kernel) (by decide +kernel)
set_option maxRecDepth 20000 in
theorem gX5_isCell_X5_in : GoodIn wsX5_isCell (va_wsS RX5 32 yX5_in wsX5_in) := goodIn_app (goodIn_of _ (by decide +kernel)) ggX5_isCell_X5_in
theorem dX5_isCell_0 : decode cX5_isCell 0 = .ok (.iload_n 0, 1) := by decide +kernel
theorem dX5_isCell_1 : decode cX5_isCell 1 = .ok (.iconst 0, 1) := by decide +kernel
theorem dX5_isCell_2 : decode cX5_isCell 2 = .ok (.bipush 35, 2) := by decide +kernel
theorem dX5_isCell_4 : decode cX5_isCell 4 = .ok (.invokestatic 32, 3) := by decide +kernel
theorem dX5_isCell_7 : decode cX5_isCell 7 = .ok (.ireturn, 1) := by decide +kernel
set_option maxRecDepth 20000 in
theorem ggX5_isDirection_X5_in : GoodIn wsX5_isDirection wsX5_in := goodIn_r _ [4] (by decide +kernel) (by decide +kernel)
set_option maxRecDepth 20000 in
theorem gX5_isDirection_X5_in : GoodIn wsX5_isDirection (va_wsS RX5 32 yX5_in wsX5_in) := goodIn_app (goodIn_of _ (by decide +kernel)) ggX5_isDirection_X5_in
theorem dX5_isDirection_0 : decode cX5_isDirection 0 = .ok (.iload_n 0, 1) := by decide +kernel
theorem dX5_isDirection_1 : decode cX5_isDirection 1 = .ok (.iconst 0, 1) := by decide +kernel
theorem dX5_isDirection_2 : decode cX5_isDirection 2 = .ok (.bipush 7, 2) := by decide +kernel
theorem dX5_isDirection_4 : decode cX5_isDirection 4 = .ok (.invokestatic 32, 3) := by decide +kernel
theorem dX5_isDirection_7 : decode cX5_isDirection 7 = .ok (.ireturn, 1) := by decide +kernel
theorem dX5_size_0 : decode cX5_size 0 = .ok (.iload_n 0, 1) := by decide +kernel
theorem dX5_size_1 : decode cX5_size 1 = .ok (.ifCond .ge 8, 3) := by decide +kernel
theorem dX5_size_4 : decode cX5_size 4 = .ok (.iload_n 0, 1) := by decide +kernel
theorem dX5_size_5 : decode cX5_size 5 = .ok (.ineg, 1) := by decide +kernel
theorem dX5_size_6 : decode cX5_size 6 = .ok (.goto 4, 3) := by decide +kernel
theorem dX5_size_9 : decode cX5_size 9 = .ok (.iload_n 0, 1) := by decide +kernel
theorem dX5_size_10 : decode cX5_size 10 = .ok (.ireturn, 1) := by decide +kernel
theorem dX5_copies_0 : decode cX5_copies 0 = .ok (.iconst 0, 1) := by decide +kernel
theorem dX5_copies_1 : decode cX5_copies 1 = .ok (.istore 4, 2) := by decide +kernel
theorem dX5_copies_3 : decode cX5_copies 3 = .ok (.iload 4, 2) := by decide +kernel
theorem dX5_copies_5 : decode cX5_copies 5 = .ok (.sipush 186, 3) := by decide +kernel
theorem dX5_copies_8 : decode cX5_copies 8 = .ok (.if_icmp .ge 21, 3) := by decide +kernel
theorem dX5_copies_11 : decode cX5_copies 11 = .ok (.aload_n 2, 1) := by decide +kernel
theorem dX5_copies_12 : decode cX5_copies 12 = .ok (.iload_n 3, 1) := by decide +kernel
theorem dX5_copies_13 : decode cX5_copies 13 = .ok (.iload 4, 2) := by decide +kernel
theorem dX5_copies_15 : decode cX5_copies 15 = .ok (.iadd, 1) := by decide +kernel
theorem dX5_copies_16 : decode cX5_copies 16 = .ok (.aload_n 0, 1) := by decide +kernel
theorem dX5_copies_17 : decode cX5_copies 17 = .ok (.iload_n 1, 1) := by decide +kernel
theorem dX5_copies_18 : decode cX5_copies 18 = .ok (.iload 4, 2) := by decide +kernel
theorem dX5_copies_20 : decode cX5_copies 20 = .ok (.iadd, 1) := by decide +kernel
theorem dX5_copies_21 : decode cX5_copies 21 = .ok (.iaload, 1) := by decide +kernel
theorem dX5_copies_22 : decode cX5_copies 22 = .ok (.iastore, 1) := by decide +kernel
theorem dX5_copies_23 : decode cX5_copies 23 = .ok (.iinc 4 1, 3) := by decide +kernel
theorem dX5_copies_26 : decode cX5_copies 26 = .ok (.goto (-23), 3) := by decide +kernel
theorem dX5_copies_29 : decode cX5_copies 29 = .ok (.return_, 1) := by decide +kernel
set_option maxRecDepth 20000 in
theorem ggX5_saves_X5_copies : GoodIn wsX5_saves wsX5_copies := goodIn_r _ [7] (by decide +kernel) (by decide +kernel)
set_option maxRecDepth 20000 in
theorem gX5_saves_X5_copies : GoodIn wsX5_saves (va_wsS RX5 39 yX5_copies wsX5_copies) := goodIn_app (goodIn_of _ (by decide +kernel)) ggX5_saves_X5_copies
theorem dX5_saves_0 : decode cX5_saves 0 = .ok (.aload_n 0, 1) := by decide +kernel
theorem dX5_saves_1 : decode cX5_saves 1 = .ok (.getfield 36, 3) := by decide +kernel
theorem dX5_saves_4 : decode cX5_saves 4 = .ok (.bipush 6, 2) := by decide +kernel
theorem dX5_saves_6 : decode cX5_saves 6 = .ok (.if_icmp .ne 44, 3) := by decide +kernel
theorem dX5_saves_9 : decode cX5_saves 9 = .ok (.iconst 0, 1) := by decide +kernel
theorem dX5_saves_10 : decode cX5_saves 10 = .ok (.istore_n 1, 1) := by decide +kernel
theorem dX5_saves_11 : decode cX5_saves 11 = .ok (.iload_n 1, 1) := by decide +kernel
theorem dX5_saves_12 : decode cX5_saves 12 = .ok (.sipush 930, 3) := by decide +kernel
theorem dX5_saves_15 : decode cX5_saves 15 = .ok (.if_icmp .ge 25, 3) := by decide +kernel
theorem dX5_saves_18 : decode cX5_saves 18 = .ok (.aload_n 0, 1) := by decide +kernel
theorem dX5_saves_19 : decode cX5_saves 19 = .ok (.getfield 16, 3) := by decide +kernel
theorem dX5_saves_22 : decode cX5_saves 22 = .ok (.iload_n 1, 1) := by decide +kernel
theorem dX5_saves_23 : decode cX5_saves 23 = .ok (.aload_n 0, 1) := by decide +kernel
theorem dX5_saves_24 : decode cX5_saves 24 = .ok (.getfield 16, 3) := by decide +kernel
theorem dX5_saves_27 : decode cX5_saves 27 = .ok (.iload_n 1, 1) := by decide +kernel
theorem dX5_saves_28 : decode cX5_saves 28 = .ok (.sipush 186, 3) := by decide +kernel
theorem dX5_saves_31 : decode cX5_saves 31 = .ok (.iadd, 1) := by decide +kernel
theorem dX5_saves_32 : decode cX5_saves 32 = .ok (.iaload, 1) := by decide +kernel
theorem dX5_saves_33 : decode cX5_saves 33 = .ok (.iastore, 1) := by decide +kernel
theorem dX5_saves_34 : decode cX5_saves 34 = .ok (.iinc 1 1, 3) := by decide +kernel
theorem dX5_saves_37 : decode cX5_saves 37 = .ok (.goto (-26), 3) := by decide +kernel
theorem dX5_saves_40 : decode cX5_saves 40 = .ok (.aload_n 0, 1) := by decide +kernel
theorem dX5_saves_41 : decode cX5_saves 41 = .ok (.dup, 1) := by decide +kernel
theorem dX5_saves_42 : decode cX5_saves 42 = .ok (.getfield 36, 3) := by decide +kernel
theorem dX5_saves_45 : decode cX5_saves 45 = .ok (.iconst 1, 1) := by decide +kernel
theorem dX5_saves_46 : decode cX5_saves 46 = .ok (.isub, 1) := by decide +kernel
theorem dX5_saves_47 : decode cX5_saves 47 = .ok (.putfield 36, 3) := by decide +kernel
theorem dX5_saves_50 : decode cX5_saves 50 = .ok (.aload_n 0, 1) := by decide +kernel
theorem dX5_saves_51 : decode cX5_saves 51 = .ok (.getfield 7, 3) := by decide +kernel
theorem dX5_saves_54 : decode cX5_saves 54 = .ok (.iconst 0, 1) := by decide +kernel
theorem dX5_saves_55 : decode cX5_saves 55 = .ok (.aload_n 0, 1) := by decide +kernel
theorem dX5_saves_56 : decode cX5_saves 56 = .ok (.getfield 16, 3) := by decide +kernel
theorem dX5_saves_59 : decode cX5_saves 59 = .ok (.sipush 186, 3) := by decide +kernel
theorem dX5_saves_62 : decode cX5_saves 62 = .ok (.aload_n 0, 1) := by decide +kernel
theorem dX5_saves_63 : decode cX5_saves 63 = .ok (.getfield 36, 3) := by decide +kernel
theorem dX5_saves_66 : decode cX5_saves 66 = .ok (.imul, 1) := by decide +kernel
theorem dX5_saves_67 : decode cX5_saves 67 = .ok (.invokestatic 39, 3) := by decide +kernel
theorem dX5_saves_70 : decode cX5_saves 70 = .ok (.aload_n 0, 1) := by decide +kernel
theorem dX5_saves_71 : decode cX5_saves 71 = .ok (.dup, 1) := by decide +kernel
theorem dX5_saves_72 : decode cX5_saves 72 = .ok (.getfield 36, 3) := by decide +kernel
theorem dX5_saves_75 : decode cX5_saves 75 = .ok (.iconst 1, 1) := by decide +kernel
theorem dX5_saves_76 : decode cX5_saves 76 = .ok (.iadd, 1) := by decide +kernel
theorem dX5_saves_77 : decode cX5_saves 77 = .ok (.putfield 36, 3) := by decide +kernel
theorem dX5_saves_80 : decode cX5_saves 80 = .ok (.return_, 1) := by decide +kernel
set_option maxRecDepth 20000 in
theorem ggX5_undo_X5_fails : GoodIn wsX5_undo wsX5_fails := goodIn_r _ [9, 1, 13, 14, 15, 16, 17, 18, 19, 20, 21, 22, 23, 24, 25, 26] (by decide +kernel) (by decide +kernel)
set_option maxRecDepth 20000 in
theorem gX5_undo_X5_fails : GoodIn wsX5_undo (wsV RX5 43 RX5 yX5_fails wsX5_fails) := goodIn_app (goodIn_of _ (by decide +kernel)) ggX5_undo_X5_fails
set_option maxRecDepth 20000 in
theorem ggX5_undo_X5_copies : GoodIn wsX5_undo wsX5_copies := goodIn_r _ [12] (by decide +kernel) (by decide +kernel)
set_option maxRecDepth 20000 in
theorem gX5_undo_X5_copies : GoodIn wsX5_undo (va_wsS RX5 39 yX5_copies wsX5_copies) := goodIn_app (goodIn_of _ (by decide +kernel)) ggX5_undo_X5_copies
theorem dX5_undo_0 : decode cX5_undo 0 = .ok (.aload_n 0, 1) := by decide +kernel
theorem dX5_undo_1 : decode cX5_undo 1 = .ok (.iconst 0, 1) := by decide +kernel
theorem dX5_undo_2 : decode cX5_undo 2 = .ok (.putfield 28, 3) := by decide +kernel
theorem dX5_undo_5 : decode cX5_undo 5 = .ok (.aload_n 0, 1) := by decide +kernel
theorem dX5_undo_6 : decode cX5_undo 6 = .ok (.getfield 36, 3) := by decide +kernel
theorem dX5_undo_9 : decode cX5_undo 9 = .ok (.ifCond .ne 9, 3) := by decide +kernel
theorem dX5_undo_12 : decode cX5_undo 12 = .ok (.aload_n 0, 1) := by decide +kernel
theorem dX5_undo_13 : decode cX5_undo 13 = .ok (.iconst 1, 1) := by decide +kernel
theorem dX5_undo_14 : decode cX5_undo 14 = .ok (.invokevirtual 43, 3) := by decide +kernel
theorem dX5_undo_17 : decode cX5_undo 17 = .ok (.ireturn, 1) := by decide +kernel
theorem dX5_undo_18 : decode cX5_undo 18 = .ok (.aload_n 0, 1) := by decide +kernel
theorem dX5_undo_19 : decode cX5_undo 19 = .ok (.dup, 1) := by decide +kernel
theorem dX5_undo_20 : decode cX5_undo 20 = .ok (.getfield 36, 3) := by decide +kernel
theorem dX5_undo_23 : decode cX5_undo 23 = .ok (.iconst 1, 1) := by decide +kernel
theorem dX5_undo_24 : decode cX5_undo 24 = .ok (.isub, 1) := by decide +kernel
theorem dX5_undo_25 : decode cX5_undo 25 = .ok (.putfield 36, 3) := by decide +kernel
theorem dX5_undo_28 : decode cX5_undo 28 = .ok (.aload_n 0, 1) := by decide +kernel
theorem dX5_undo_29 : decode cX5_undo 29 = .ok (.getfield 16, 3) := by decide +kernel
theorem dX5_undo_32 : decode cX5_undo 32 = .ok (.sipush 186, 3) := by decide +kernel
theorem dX5_undo_35 : decode cX5_undo 35 = .ok (.aload_n 0, 1) := by decide +kernel
theorem dX5_undo_36 : decode cX5_undo 36 = .ok (.getfield 36, 3) := by decide +kernel
theorem dX5_undo_39 : decode cX5_undo 39 = .ok (.imul, 1) := by decide +kernel
theorem dX5_undo_40 : decode cX5_undo 40 = .ok (.aload_n 0, 1) := by decide +kernel
theorem dX5_undo_41 : decode cX5_undo 41 = .ok (.getfield 7, 3) := by decide +kernel
theorem dX5_undo_44 : decode cX5_undo 44 = .ok (.iconst 0, 1) := by decide +kernel
theorem dX5_undo_45 : decode cX5_undo 45 = .ok (.invokestatic 39, 3) := by decide +kernel
theorem dX5_undo_48 : decode cX5_undo 48 = .ok (.aload_n 0, 1) := by decide +kernel
theorem dX5_undo_49 : decode cX5_undo 49 = .ok (.getfield 36, 3) := by decide +kernel
theorem dX5_undo_52 : decode cX5_undo 52 = .ok (.ireturn, 1) := by decide +kernel
set_option maxRecDepth 20000 in
theorem ggX5_xOf_X5_in : GoodIn wsX5_xOf wsX5_in := goodIn_r _ [4] (by decide +kernel) (by decide +kernel)
set_option maxRecDepth 20000 in
theorem gX5_xOf_X5_in : GoodIn wsX5_xOf (va_wsS RX5 32 yX5_in wsX5_in) := goodIn_app (goodIn_of _ (by decide +kernel)) ggX5_xOf_X5_in
theorem dX5_xOf_0 : decode cX5_xOf 0 = .ok (.iload_n 0, 1) := by decide +kernel
theorem dX5_xOf_1 : decode cX5_xOf 1 = .ok (.iconst 2, 1) := by decide +kernel
theorem dX5_xOf_2 : decode cX5_xOf 2 = .ok (.if_icmp .eq 9, 3) := by decide +kernel
theorem dX5_xOf_5 : decode cX5_xOf 5 = .ok (.iload_n 0, 1) := by decide +kernel
theorem dX5_xOf_6 : decode cX5_xOf 6 = .ok (.bipush 6, 2) := by decide +kernel
theorem dX5_xOf_8 : decode cX5_xOf 8 = .ok (.if_icmp .ne 7, 3) := by decide +kernel
theorem dX5_xOf_11 : decode cX5_xOf 11 = .ok (.iconst 0, 1) := by decide +kernel
theorem dX5_xOf_12 : decode cX5_xOf 12 = .ok (.goto 17, 3) := by decide +kernel
theorem dX5_xOf_15 : decode cX5_xOf 15 = .ok (.iload_n 0, 1) := by decide +kernel
theorem dX5_xOf_16 : decode cX5_xOf 16 = .ok (.iconst 3, 1) := by decide +kernel
theorem dX5_xOf_17 : decode cX5_xOf 17 = .ok (.iconst 5, 1) := by decide +kernel
theorem dX5_xOf_18 : decode cX5_xOf 18 = .ok (.invokestatic 32, 3) := by decide +kernel
theorem dX5_xOf_21 : decode cX5_xOf 21 = .ok (.ifCond .eq 7, 3) := by decide +kernel
theorem dX5_xOf_24 : decode cX5_xOf 24 = .ok (.iconst (-1), 1) := by decide +kernel
theorem dX5_xOf_25 : decode cX5_xOf 25 = .ok (.goto 4, 3) := by decide +kernel
theorem dX5_xOf_28 : decode cX5_xOf 28 = .ok (.iconst 1, 1) := by decide +kernel
theorem dX5_xOf_29 : decode cX5_xOf 29 = .ok (.ireturn, 1) := by decide +kernel
set_option maxRecDepth 20000 in
theorem ggX5_yOf_X5_in : GoodIn wsX5_yOf wsX5_in := goodIn_r _ [4] (by decide +kernel) (by decide +kernel)
set_option maxRecDepth 20000 in
theorem gX5_yOf_X5_in : GoodIn wsX5_yOf (va_wsS RX5 32 yX5_in wsX5_in) := goodIn_app (goodIn_of _ (by decide +kernel)) ggX5_yOf_X5_in
theorem dX5_yOf_0 : decode cX5_yOf 0 = .ok (.iload_n 0, 1) := by decide +kernel
theorem dX5_yOf_1 : decode cX5_yOf 1 = .ok (.ifCond .eq 8, 3) := by decide +kernel
theorem dX5_yOf_4 : decode cX5_yOf 4 = .ok (.iload_n 0, 1) := by decide +kernel
theorem dX5_yOf_5 : decode cX5_yOf 5 = .ok (.iconst 4, 1) := by decide +kernel
theorem dX5_yOf_6 : decode cX5_yOf 6 = .ok (.if_icmp .ne 7, 3) := by decide +kernel
theorem dX5_yOf_9 : decode cX5_yOf 9 = .ok (.iconst 0, 1) := by decide +kernel
theorem dX5_yOf_10 : decode cX5_yOf 10 = .ok (.goto 17, 3) := by decide +kernel
theorem dX5_yOf_13 : decode cX5_yOf 13 = .ok (.iload_n 0, 1) := by decide +kernel
theorem dX5_yOf_14 : decode cX5_yOf 14 = .ok (.iconst 1, 1) := by decide +kernel
theorem dX5_yOf_15 : decode cX5_yOf 15 = .ok (.iconst 3, 1) := by decide +kernel
theorem dX5_yOf_16 : decode cX5_yOf 16 = .ok (.invokestatic 32, 3) := by decide +kernel
theorem dX5_yOf_19 : decode cX5_yOf 19 = .ok (.ifCond .eq 7, 3) := by decide +kernel
theorem dX5_yOf_22 : decode cX5_yOf 22 = .ok (.iconst 1, 1) := by decide +kernel
theorem dX5_yOf_23 : decode cX5_yOf 23 = .ok (.goto 4, 3) := by decide +kernel
theorem dX5_yOf_26 : decode cX5_yOf 26 = .ok (.iconst (-1), 1) := by decide +kernel
theorem dX5_yOf_27 : decode cX5_yOf 27 = .ok (.ireturn, 1) := by decide +kernel
set_option maxRecDepth 20000 in
theorem ggX5_adds_X5_xOf : GoodIn wsX5_adds wsX5_xOf := goodIn_r _ [6, 7, 8, 5, 9] (by decide +kernel) (by decide +kernel)
set_option maxRecDepth 20000 in
theorem gX5_adds_X5_xOf : GoodIn wsX5_adds (va_wsS RX5 50 yX5_xOf wsX5_xOf) := goodIn_app (goodIn_of _ (by decide +kernel)) ggX5_adds_X5_xOf
set_option maxRecDepth 20000 in
theorem ggX5_adds_X5_yOf : GoodIn wsX5_adds wsX5_yOf := goodIn_r _ [12, 7, 8, 5, 9] (by decide +kernel) (by decide +kernel)
set_option maxRecDepth 20000 in
theorem gX5_adds_X5_yOf : GoodIn wsX5_adds (va_wsS RX5 56 yX5_yOf wsX5_yOf) := goodIn_app (goodIn_of _ (by decide +kernel)) ggX5_adds_X5_yOf
theorem dX5_adds_0 : decode cX5_adds 0 = .ok (.aload_n 0, 1) := by decide +kernel
theorem dX5_adds_1 : decode cX5_adds 1 = .ok (.dup, 1) := by decide +kernel
theorem dX5_adds_2 : decode cX5_adds 2 = .ok (.getfield 47, 3) := by decide +kernel
theorem dX5_adds_5 : decode cX5_adds 5 = .ok (.iload_n 2, 1) := by decide +kernel
theorem dX5_adds_6 : decode cX5_adds 6 = .ok (.iload_n 1, 1) := by decide +kernel
theorem dX5_adds_7 : decode cX5_adds 7 = .ok (.invokestatic 50, 3) := by decide +kernel
theorem dX5_adds_10 : decode cX5_adds 10 = .ok (.imul, 1) := by decide +kernel
theorem dX5_adds_11 : decode cX5_adds 11 = .ok (.iadd, 1) := by decide +kernel
theorem dX5_adds_12 : decode cX5_adds 12 = .ok (.putfield 47, 3) := by decide +kernel
theorem dX5_adds_15 : decode cX5_adds 15 = .ok (.aload_n 0, 1) := by decide +kernel
theorem dX5_adds_16 : decode cX5_adds 16 = .ok (.dup, 1) := by decide +kernel
theorem dX5_adds_17 : decode cX5_adds 17 = .ok (.getfield 53, 3) := by decide +kernel
theorem dX5_adds_20 : decode cX5_adds 20 = .ok (.iload_n 2, 1) := by decide +kernel
theorem dX5_adds_21 : decode cX5_adds 21 = .ok (.iload_n 1, 1) := by decide +kernel
theorem dX5_adds_22 : decode cX5_adds 22 = .ok (.invokestatic 56, 3) := by decide +kernel
theorem dX5_adds_25 : decode cX5_adds 25 = .ok (.imul, 1) := by decide +kernel
theorem dX5_adds_26 : decode cX5_adds 26 = .ok (.iadd, 1) := by decide +kernel
theorem dX5_adds_27 : decode cX5_adds 27 = .ok (.putfield 53, 3) := by decide +kernel
theorem dX5_adds_30 : decode cX5_adds 30 = .ok (.return_, 1) := by decide +kernel
set_option maxRecDepth 20000 in
theorem ggX5_addsBar_X5_xOf : GoodIn wsX5_addsBar wsX5_xOf := goodIn_r _ [4, 5, 6, 3, 7] (by decide +kernel) (by decide +kernel)
set_option maxRecDepth 20000 in
theorem gX5_addsBar_X5_xOf : GoodIn wsX5_addsBar (va_wsS RX5 50 yX5_xOf wsX5_xOf) := goodIn_app (goodIn_of _ (by decide +kernel)) ggX5_addsBar_X5_xOf
set_option maxRecDepth 20000 in
theorem ggX5_addsBar_X5_yOf : GoodIn wsX5_addsBar wsX5_yOf := goodIn_r _ [10, 5, 6, 3, 7] (by decide +kernel) (by decide +kernel)
set_option maxRecDepth 20000 in
theorem gX5_addsBar_X5_yOf : GoodIn wsX5_addsBar (va_wsS RX5 56 yX5_yOf wsX5_yOf) := goodIn_app (goodIn_of _ (by decide +kernel)) ggX5_addsBar_X5_yOf
set_option maxRecDepth 20000 in
theorem ggX5_addsBar_X5_adds : GoodIn wsX5_addsBar wsX5_adds := goodIn_r _ [14, 15, 16, 1, 2, 3, 4, 5, 6, 7, 8, 9, 10, 17, 18, 19, 20, 21, 22, 23, 24, 25, 26, 27, 28, 29, 30] (by decide +kernel) (by decide +kernel)
set_option maxRecDepth 20000 in
theorem gX5_addsBar_X5_adds : GoodIn wsX5_addsBar (wsV RX5 59 RX5 yX5_adds wsX5_adds) := goodIn_app (goodIn_of _ (by decide +kernel)) ggX5_addsBar_X5_adds
theorem dX5_addsBar_0 : decode cX5_addsBar 0 = .ok (.iload_n 3, 1) := by decide +kernel
theorem dX5_addsBar_1 : decode cX5_addsBar 1 = .ok (.bipush 6, 2) := by decide +kernel
theorem dX5_addsBar_3 : decode cX5_addsBar 3 = .ok (.irem, 1) := by decide +kernel
theorem dX5_addsBar_4 : decode cX5_addsBar 4 = .ok (.iload_n 2, 1) := by decide +kernel
theorem dX5_addsBar_5 : decode cX5_addsBar 5 = .ok (.bipush 6, 2) := by decide +kernel
theorem dX5_addsBar_7 : decode cX5_addsBar 7 = .ok (.irem, 1) := by decide +kernel
theorem dX5_addsBar_8 : decode cX5_addsBar 8 = .ok (.isub, 1) := by decide +kernel
theorem dX5_addsBar_9 : decode cX5_addsBar 9 = .ok (.istore 4, 2) := by decide +kernel
theorem dX5_addsBar_11 : decode cX5_addsBar 11 = .ok (.iload_n 3, 1) := by decide +kernel
theorem dX5_addsBar_12 : decode cX5_addsBar 12 = .ok (.bipush 6, 2) := by decide +kernel
theorem dX5_addsBar_14 : decode cX5_addsBar 14 = .ok (.idiv, 1) := by decide +kernel
theorem dX5_addsBar_15 : decode cX5_addsBar 15 = .ok (.iload_n 2, 1) := by decide +kernel
theorem dX5_addsBar_16 : decode cX5_addsBar 16 = .ok (.bipush 6, 2) := by decide +kernel
theorem dX5_addsBar_18 : decode cX5_addsBar 18 = .ok (.idiv, 1) := by decide +kernel
theorem dX5_addsBar_19 : decode cX5_addsBar 19 = .ok (.isub, 1) := by decide +kernel
theorem dX5_addsBar_20 : decode cX5_addsBar 20 = .ok (.istore 5, 2) := by decide +kernel
theorem dX5_addsBar_22 : decode cX5_addsBar 22 = .ok (.iload 4, 2) := by decide +kernel
theorem dX5_addsBar_24 : decode cX5_addsBar 24 = .ok (.iload 4, 2) := by decide +kernel
theorem dX5_addsBar_26 : decode cX5_addsBar 26 = .ok (.imul, 1) := by decide +kernel
theorem dX5_addsBar_27 : decode cX5_addsBar 27 = .ok (.iload 5, 2) := by decide +kernel
theorem dX5_addsBar_29 : decode cX5_addsBar 29 = .ok (.iload 5, 2) := by decide +kernel
theorem dX5_addsBar_31 : decode cX5_addsBar 31 = .ok (.imul, 1) := by decide +kernel
theorem dX5_addsBar_32 : decode cX5_addsBar 32 = .ok (.iadd, 1) := by decide +kernel
theorem dX5_addsBar_33 : decode cX5_addsBar 33 = .ok (.istore 6, 2) := by decide +kernel
theorem dX5_addsBar_35 : decode cX5_addsBar 35 = .ok (.aload_n 1, 1) := by decide +kernel
theorem dX5_addsBar_36 : decode cX5_addsBar 36 = .ok (.bipush 114, 2) := by decide +kernel
theorem dX5_addsBar_38 : decode cX5_addsBar 38 = .ok (.iload_n 2, 1) := by decide +kernel
theorem dX5_addsBar_39 : decode cX5_addsBar 39 = .ok (.iadd, 1) := by decide +kernel
theorem dX5_addsBar_40 : decode cX5_addsBar 40 = .ok (.iaload, 1) := by decide +kernel
theorem dX5_addsBar_41 : decode cX5_addsBar 41 = .ok (.invokestatic 50, 3) := by decide +kernel
theorem dX5_addsBar_44 : decode cX5_addsBar 44 = .ok (.istore 7, 2) := by decide +kernel
theorem dX5_addsBar_46 : decode cX5_addsBar 46 = .ok (.aload_n 1, 1) := by decide +kernel
theorem dX5_addsBar_47 : decode cX5_addsBar 47 = .ok (.bipush 114, 2) := by decide +kernel
theorem dX5_addsBar_49 : decode cX5_addsBar 49 = .ok (.iload_n 2, 1) := by decide +kernel
theorem dX5_addsBar_50 : decode cX5_addsBar 50 = .ok (.iadd, 1) := by decide +kernel
theorem dX5_addsBar_51 : decode cX5_addsBar 51 = .ok (.iaload, 1) := by decide +kernel
theorem dX5_addsBar_52 : decode cX5_addsBar 52 = .ok (.invokestatic 56, 3) := by decide +kernel
theorem dX5_addsBar_55 : decode cX5_addsBar 55 = .ok (.istore 8, 2) := by decide +kernel
theorem dX5_addsBar_57 : decode cX5_addsBar 57 = .ok (.iload 4, 2) := by decide +kernel
theorem dX5_addsBar_59 : decode cX5_addsBar 59 = .ok (.iload 7, 2) := by decide +kernel
theorem dX5_addsBar_61 : decode cX5_addsBar 61 = .ok (.imul, 1) := by decide +kernel
theorem dX5_addsBar_62 : decode cX5_addsBar 62 = .ok (.iload 5, 2) := by decide +kernel
theorem dX5_addsBar_64 : decode cX5_addsBar 64 = .ok (.iload 8, 2) := by decide +kernel
theorem dX5_addsBar_66 : decode cX5_addsBar 66 = .ok (.imul, 1) := by decide +kernel
theorem dX5_addsBar_67 : decode cX5_addsBar 67 = .ok (.iadd, 1) := by decide +kernel
theorem dX5_addsBar_68 : decode cX5_addsBar 68 = .ok (.istore 9, 2) := by decide +kernel
theorem dX5_addsBar_70 : decode cX5_addsBar 70 = .ok (.aload_n 1, 1) := by decide +kernel
theorem dX5_addsBar_71 : decode cX5_addsBar 71 = .ok (.sipush 150, 3) := by decide +kernel
theorem dX5_addsBar_74 : decode cX5_addsBar 74 = .ok (.iload_n 2, 1) := by decide +kernel
theorem dX5_addsBar_75 : decode cX5_addsBar 75 = .ok (.iadd, 1) := by decide +kernel
theorem dX5_addsBar_76 : decode cX5_addsBar 76 = .ok (.iaload, 1) := by decide +kernel
theorem dX5_addsBar_77 : decode cX5_addsBar 77 = .ok (.bipush 100, 2) := by decide +kernel
theorem dX5_addsBar_79 : decode cX5_addsBar 79 = .ok (.imul, 1) := by decide +kernel
theorem dX5_addsBar_80 : decode cX5_addsBar 80 = .ok (.iload 6, 2) := by decide +kernel
theorem dX5_addsBar_82 : decode cX5_addsBar 82 = .ok (.idiv, 1) := by decide +kernel
theorem dX5_addsBar_83 : decode cX5_addsBar 83 = .ok (.istore 10, 2) := by decide +kernel
theorem dX5_addsBar_85 : decode cX5_addsBar 85 = .ok (.aload_n 0, 1) := by decide +kernel
theorem dX5_addsBar_86 : decode cX5_addsBar 86 = .ok (.aload_n 1, 1) := by decide +kernel
theorem dX5_addsBar_87 : decode cX5_addsBar 87 = .ok (.bipush 114, 2) := by decide +kernel
theorem dX5_addsBar_89 : decode cX5_addsBar 89 = .ok (.iload_n 2, 1) := by decide +kernel
theorem dX5_addsBar_90 : decode cX5_addsBar 90 = .ok (.iadd, 1) := by decide +kernel
theorem dX5_addsBar_91 : decode cX5_addsBar 91 = .ok (.iaload, 1) := by decide +kernel
theorem dX5_addsBar_92 : decode cX5_addsBar 92 = .ok (.iconst 2, 1) := by decide +kernel
theorem dX5_addsBar_93 : decode cX5_addsBar 93 = .ok (.iload 9, 2) := by decide +kernel
theorem dX5_addsBar_95 : decode cX5_addsBar 95 = .ok (.imul, 1) := by decide +kernel
theorem dX5_addsBar_96 : decode cX5_addsBar 96 = .ok (.iload 9, 2) := by decide +kernel
theorem dX5_addsBar_98 : decode cX5_addsBar 98 = .ok (.imul, 1) := by decide +kernel
theorem dX5_addsBar_99 : decode cX5_addsBar 99 = .ok (.iload 6, 2) := by decide +kernel
theorem dX5_addsBar_101 : decode cX5_addsBar 101 = .ok (.iload 7, 2) := by decide +kernel
theorem dX5_addsBar_103 : decode cX5_addsBar 103 = .ok (.iload 7, 2) := by decide +kernel
theorem dX5_addsBar_105 : decode cX5_addsBar 105 = .ok (.imul, 1) := by decide +kernel
theorem dX5_addsBar_106 : decode cX5_addsBar 106 = .ok (.iload 8, 2) := by decide +kernel
theorem dX5_addsBar_108 : decode cX5_addsBar 108 = .ok (.iload 8, 2) := by decide +kernel
theorem dX5_addsBar_110 : decode cX5_addsBar 110 = .ok (.imul, 1) := by decide +kernel
theorem dX5_addsBar_111 : decode cX5_addsBar 111 = .ok (.iadd, 1) := by decide +kernel
theorem dX5_addsBar_112 : decode cX5_addsBar 112 = .ok (.imul, 1) := by decide +kernel
theorem dX5_addsBar_113 : decode cX5_addsBar 113 = .ok (.if_icmp .lt 8, 3) := by decide +kernel
theorem dX5_addsBar_116 : decode cX5_addsBar 116 = .ok (.iload 10, 2) := by decide +kernel
theorem dX5_addsBar_118 : decode cX5_addsBar 118 = .ok (.goto 8, 3) := by decide +kernel
theorem dX5_addsBar_121 : decode cX5_addsBar 121 = .ok (.iload 10, 2) := by decide +kernel
theorem dX5_addsBar_123 : decode cX5_addsBar 123 = .ok (.iconst 2, 1) := by decide +kernel
theorem dX5_addsBar_124 : decode cX5_addsBar 124 = .ok (.idiv, 1) := by decide +kernel
theorem dX5_addsBar_125 : decode cX5_addsBar 125 = .ok (.ineg, 1) := by decide +kernel
theorem dX5_addsBar_126 : decode cX5_addsBar 126 = .ok (.invokevirtual 59, 3) := by decide +kernel
theorem dX5_addsBar_129 : decode cX5_addsBar 129 = .ok (.return_, 1) := by decide +kernel
set_option maxRecDepth 20000 in
theorem ggX5_lays_X5_adds : GoodIn wsX5_lays wsX5_adds := goodIn_r _ [7, 1, 2, 8, 9, 6, 10, 11, 12, 13, 14, 15, 16, 24, 25, 26, 27, 28, 29, 30, 31, 32, 33, 34, 35, 36, 37] (by decide +kernel) (by decide +kernel)
set_option maxRecDepth 20000 in
theorem gX5_lays_X5_adds : GoodIn wsX5_lays (wsV RX5 59 RX5 yX5_adds wsX5_adds) := goodIn_app (goodIn_of _ (by decide +kernel)) ggX5_lays_X5_adds
set_option maxRecDepth 20000 in
theorem ggX5_lays_X5_addsBar : GoodIn wsX5_lays wsX5_addsBar := goodIn_r _ [20, 8, 9, 6, 10, 11, 12, 13, 14, 15, 16, 3, 4, 5, 7, 1, 2, 24, 25, 26, 27, 28, 29, 30, 31, 32, 33, 34, 35, 36, 37] (by decide +kernel) (by decide +kernel)
set_option maxRecDepth 20000 in
theorem gX5_lays_X5_addsBar : GoodIn wsX5_lays (wsV RX5 63 RX5 yX5_addsBar wsX5_addsBar) := goodIn_app (goodIn_of _ (by decide +kernel)) ggX5_lays_X5_addsBar
set_option maxRecDepth 20000 in
theorem ggX5_lays_X5_size : GoodIn wsX5_lays wsX5_size := goodIn_r _ [23] (by decide +kernel) (by decide +kernel)
set_option maxRecDepth 20000 in
theorem gX5_lays_X5_size : GoodIn wsX5_lays (va_wsS RX5 67 yX5_size wsX5_size) := goodIn_app (goodIn_of _ (by decide +kernel)) ggX5_lays_X5_size
theorem dX5_lays_0 : decode cX5_lays 0 = .ok (.aload_n 0, 1) := by decide +kernel
theorem dX5_lays_1 : decode cX5_lays 1 = .ok (.iconst 0, 1) := by decide +kernel
theorem dX5_lays_2 : decode cX5_lays 2 = .ok (.putfield 47, 3) := by decide +kernel
theorem dX5_lays_5 : decode cX5_lays 5 = .ok (.aload_n 0, 1) := by decide +kernel
theorem dX5_lays_6 : decode cX5_lays 6 = .ok (.aload_n 1, 1) := by decide +kernel
theorem dX5_lays_7 : decode cX5_lays 7 = .ok (.iconst 0, 1) := by decide +kernel
theorem dX5_lays_8 : decode cX5_lays 8 = .ok (.iaload, 1) := by decide +kernel
theorem dX5_lays_9 : decode cX5_lays 9 = .ok (.ineg, 1) := by decide +kernel
theorem dX5_lays_10 : decode cX5_lays 10 = .ok (.putfield 53, 3) := by decide +kernel
theorem dX5_lays_13 : decode cX5_lays 13 = .ok (.aload_n 0, 1) := by decide +kernel
theorem dX5_lays_14 : decode cX5_lays 14 = .ok (.aload_n 1, 1) := by decide +kernel
theorem dX5_lays_15 : decode cX5_lays 15 = .ok (.iconst 5, 1) := by decide +kernel
theorem dX5_lays_16 : decode cX5_lays 16 = .ok (.iaload, 1) := by decide +kernel
theorem dX5_lays_17 : decode cX5_lays 17 = .ok (.aload_n 1, 1) := by decide +kernel
theorem dX5_lays_18 : decode cX5_lays 18 = .ok (.iconst 1, 1) := by decide +kernel
theorem dX5_lays_19 : decode cX5_lays 19 = .ok (.iaload, 1) := by decide +kernel
theorem dX5_lays_20 : decode cX5_lays 20 = .ok (.aload_n 1, 1) := by decide +kernel
theorem dX5_lays_21 : decode cX5_lays 21 = .ok (.iconst 4, 1) := by decide +kernel
theorem dX5_lays_22 : decode cX5_lays 22 = .ok (.iaload, 1) := by decide +kernel
theorem dX5_lays_23 : decode cX5_lays 23 = .ok (.imul, 1) := by decide +kernel
theorem dX5_lays_24 : decode cX5_lays 24 = .ok (.invokevirtual 59, 3) := by decide +kernel
theorem dX5_lays_27 : decode cX5_lays 27 = .ok (.iconst 0, 1) := by decide +kernel
theorem dX5_lays_28 : decode cX5_lays 28 = .ok (.istore_n 3, 1) := by decide +kernel
theorem dX5_lays_29 : decode cX5_lays 29 = .ok (.iload_n 3, 1) := by decide +kernel
theorem dX5_lays_30 : decode cX5_lays 30 = .ok (.bipush 36, 2) := by decide +kernel
theorem dX5_lays_32 : decode cX5_lays 32 = .ok (.if_icmp .ge 81, 3) := by decide +kernel
theorem dX5_lays_35 : decode cX5_lays 35 = .ok (.aload_n 1, 1) := by decide +kernel
theorem dX5_lays_36 : decode cX5_lays 36 = .ok (.sipush 150, 3) := by decide +kernel
theorem dX5_lays_39 : decode cX5_lays 39 = .ok (.iload_n 3, 1) := by decide +kernel
theorem dX5_lays_40 : decode cX5_lays 40 = .ok (.iadd, 1) := by decide +kernel
theorem dX5_lays_41 : decode cX5_lays 41 = .ok (.iaload, 1) := by decide +kernel
theorem dX5_lays_42 : decode cX5_lays 42 = .ok (.ifCond .le 15, 3) := by decide +kernel
theorem dX5_lays_45 : decode cX5_lays 45 = .ok (.iload_n 3, 1) := by decide +kernel
theorem dX5_lays_46 : decode cX5_lays 46 = .ok (.iload_n 2, 1) := by decide +kernel
theorem dX5_lays_47 : decode cX5_lays 47 = .ok (.if_icmp .eq 10, 3) := by decide +kernel
theorem dX5_lays_50 : decode cX5_lays 50 = .ok (.aload_n 0, 1) := by decide +kernel
theorem dX5_lays_51 : decode cX5_lays 51 = .ok (.aload_n 1, 1) := by decide +kernel
theorem dX5_lays_52 : decode cX5_lays 52 = .ok (.iload_n 3, 1) := by decide +kernel
theorem dX5_lays_53 : decode cX5_lays 53 = .ok (.iload_n 2, 1) := by decide +kernel
theorem dX5_lays_54 : decode cX5_lays 54 = .ok (.invokevirtual 63, 3) := by decide +kernel
theorem dX5_lays_57 : decode cX5_lays 57 = .ok (.iload_n 3, 1) := by decide +kernel
theorem dX5_lays_58 : decode cX5_lays 58 = .ok (.bipush 6, 2) := by decide +kernel
theorem dX5_lays_60 : decode cX5_lays 60 = .ok (.irem, 1) := by decide +kernel
theorem dX5_lays_61 : decode cX5_lays 61 = .ok (.iload_n 2, 1) := by decide +kernel
theorem dX5_lays_62 : decode cX5_lays 62 = .ok (.bipush 6, 2) := by decide +kernel
theorem dX5_lays_64 : decode cX5_lays 64 = .ok (.irem, 1) := by decide +kernel
theorem dX5_lays_65 : decode cX5_lays 65 = .ok (.isub, 1) := by decide +kernel
theorem dX5_lays_66 : decode cX5_lays 66 = .ok (.invokestatic 67, 3) := by decide +kernel
theorem dX5_lays_69 : decode cX5_lays 69 = .ok (.iload_n 3, 1) := by decide +kernel
theorem dX5_lays_70 : decode cX5_lays 70 = .ok (.bipush 6, 2) := by decide +kernel
theorem dX5_lays_72 : decode cX5_lays 72 = .ok (.idiv, 1) := by decide +kernel
theorem dX5_lays_73 : decode cX5_lays 73 = .ok (.iload_n 2, 1) := by decide +kernel
theorem dX5_lays_74 : decode cX5_lays 74 = .ok (.bipush 6, 2) := by decide +kernel
theorem dX5_lays_76 : decode cX5_lays 76 = .ok (.idiv, 1) := by decide +kernel
theorem dX5_lays_77 : decode cX5_lays 77 = .ok (.isub, 1) := by decide +kernel
theorem dX5_lays_78 : decode cX5_lays 78 = .ok (.invokestatic 67, 3) := by decide +kernel
theorem dX5_lays_81 : decode cX5_lays 81 = .ok (.iadd, 1) := by decide +kernel
theorem dX5_lays_82 : decode cX5_lays 82 = .ok (.istore 4, 2) := by decide +kernel
theorem dX5_lays_84 : decode cX5_lays 84 = .ok (.aload_n 0, 1) := by decide +kernel
theorem dX5_lays_85 : decode cX5_lays 85 = .ok (.aload_n 1, 1) := by decide +kernel
theorem dX5_lays_86 : decode cX5_lays 86 = .ok (.bipush 6, 2) := by decide +kernel
theorem dX5_lays_88 : decode cX5_lays 88 = .ok (.iload_n 3, 1) := by decide +kernel
theorem dX5_lays_89 : decode cX5_lays 89 = .ok (.iadd, 1) := by decide +kernel
theorem dX5_lays_90 : decode cX5_lays 90 = .ok (.iaload, 1) := by decide +kernel
