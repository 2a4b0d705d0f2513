theorem dX5_lays_91 : decode cX5_lays 91 = .ok (.iload 4, 2) := by decide +kernel
theorem dX5_lays_93 : decode cX5_lays 93 = .ok (.iconst 1, 1) := by decide +kernel
theorem dX5_lays_94 : decode cX5_lays 94 = .ok (.if_icmp .ne 9, 3) := by decide +kernel
theorem dX5_lays_97 : decode cX5_lays 97 = .ok (.aload_n 1, 1) := by decide +kernel
theorem dX5_lays_98 : decode cX5_lays 98 = .ok (.iconst 2, 1) := by decide +kernel
theorem dX5_lays_99 : decode cX5_lays 99 = .ok (.iaload, 1) := by decide +kernel
theorem dX5_lays_100 : decode cX5_lays 100 = .ok (.goto 4, 3) := by decide +kernel
theorem dX5_lays_103 : decode cX5_lays 103 = .ok (.iconst 0, 1) := by decide +kernel
theorem dX5_lays_104 : decode cX5_lays 104 = .ok (.invokevirtual 59, 3) := by decide +kernel
theorem dX5_lays_107 : decode cX5_lays 107 = .ok (.iinc 3 1, 3) := by decide +kernel
theorem dX5_lays_110 : decode cX5_lays 110 = .ok (.goto (-81), 3) := by decide +kernel
theorem dX5_lays_113 : decode cX5_lays 113 = .ok (.return_, 1) := by decide +kernel
set_option maxRecDepth 20000 in
theorem ggX5_aim_X5_lays : GoodIn wsX5_aim wsX5_lays := goodIn_r _ [7, 1, 2, 8, 9, 10, 6, 11, 12, 13, 14, 15, 16, 17, 18, 19, 20, 21, 22, 23, 24, 25, 26, 27, 28, 29, 30, 31, 32, 33, 34, 35, 36, 37, 38, 39, 40, 41] (by decide +kernel) (by decide +kernel)
set_option maxRecDepth 20000 in
theorem gX5_aim_X5_lays : GoodIn wsX5_aim (wsV RX5 70 RX5 yX5_lays wsX5_lays) := goodIn_app (goodIn_of _ (by decide +kernel)) ggX5_aim_X5_lays
set_option maxRecDepth 20000 in
theorem ggX5_aim_X5_size : GoodIn wsX5_aim wsX5_size := goodIn_r _ [27] (by decide +kernel) (by decide +kernel)
set_option maxRecDepth 20000 in
theorem gX5_aim_X5_size : GoodIn wsX5_aim (va_wsS RX5 67 yX5_size wsX5_size) := goodIn_app (goodIn_of _ (by decide +kernel)) ggX5_aim_X5_size
theorem dX5_aim_0 : decode cX5_aim 0 = .ok (.aload_n 0, 1) := by decide +kernel
theorem dX5_aim_1 : decode cX5_aim 1 = .ok (.aload_n 1, 1) := by decide +kernel
theorem dX5_aim_2 : decode cX5_aim 2 = .ok (.iload_n 2, 1) := by decide +kernel
theorem dX5_aim_3 : decode cX5_aim 3 = .ok (.invokevirtual 70, 3) := by decide +kernel
theorem dX5_aim_6 : decode cX5_aim 6 = .ok (.aload_n 0, 1) := by decide +kernel
theorem dX5_aim_7 : decode cX5_aim 7 = .ok (.getfield 47, 3) := by decide +kernel
theorem dX5_aim_10 : decode cX5_aim 10 = .ok (.invokestatic 67, 3) := by decide +kernel
theorem dX5_aim_13 : decode cX5_aim 13 = .ok (.istore_n 3, 1) := by decide +kernel
theorem dX5_aim_14 : decode cX5_aim 14 = .ok (.aload_n 0, 1) := by decide +kernel
theorem dX5_aim_15 : decode cX5_aim 15 = .ok (.getfield 53, 3) := by decide +kernel
theorem dX5_aim_18 : decode cX5_aim 18 = .ok (.invokestatic 67, 3) := by decide +kernel
theorem dX5_aim_21 : decode cX5_aim 21 = .ok (.istore 4, 2) := by decide +kernel
theorem dX5_aim_23 : decode cX5_aim 23 = .ok (.iload_n 3, 1) := by decide +kernel
theorem dX5_aim_24 : decode cX5_aim 24 = .ok (.ifCond .ne 10, 3) := by decide +kernel
theorem dX5_aim_27 : decode cX5_aim 27 = .ok (.iload 4, 2) := by decide +kernel
theorem dX5_aim_29 : decode cX5_aim 29 = .ok (.ifCond .ne 5, 3) := by decide +kernel
theorem dX5_aim_32 : decode cX5_aim 32 = .ok (.iconst (-1), 1) := by decide +kernel
theorem dX5_aim_33 : decode cX5_aim 33 = .ok (.ireturn, 1) := by decide +kernel
theorem dX5_aim_34 : decode cX5_aim 34 = .ok (.bipush 12, 2) := by decide +kernel
theorem dX5_aim_36 : decode cX5_aim 36 = .ok (.iload 4, 2) := by decide +kernel
theorem dX5_aim_38 : decode cX5_aim 38 = .ok (.imul, 1) := by decide +kernel
theorem dX5_aim_39 : decode cX5_aim 39 = .ok (.iconst 5, 1) := by decide +kernel
theorem dX5_aim_40 : decode cX5_aim 40 = .ok (.iload_n 3, 1) := by decide +kernel
theorem dX5_aim_41 : decode cX5_aim 41 = .ok (.imul, 1) := by decide +kernel
theorem dX5_aim_42 : decode cX5_aim 42 = .ok (.if_icmp .gt 16, 3) := by decide +kernel
theorem dX5_aim_45 : decode cX5_aim 45 = .ok (.aload_n 0, 1) := by decide +kernel
theorem dX5_aim_46 : decode cX5_aim 46 = .ok (.getfield 47, 3) := by decide +kernel
theorem dX5_aim_49 : decode cX5_aim 49 = .ok (.ifCond .le 7, 3) := by decide +kernel
theorem dX5_aim_52 : decode cX5_aim 52 = .ok (.iconst 0, 1) := by decide +kernel
theorem dX5_aim_53 : decode cX5_aim 53 = .ok (.goto 4, 3) := by decide +kernel
theorem dX5_aim_56 : decode cX5_aim 56 = .ok (.iconst 4, 1) := by decide +kernel
theorem dX5_aim_57 : decode cX5_aim 57 = .ok (.ireturn, 1) := by decide +kernel
theorem dX5_aim_58 : decode cX5_aim 58 = .ok (.bipush 12, 2) := by decide +kernel
theorem dX5_aim_60 : decode cX5_aim 60 = .ok (.iload_n 3, 1) := by decide +kernel
theorem dX5_aim_61 : decode cX5_aim 61 = .ok (.imul, 1) := by decide +kernel
theorem dX5_aim_62 : decode cX5_aim 62 = .ok (.iconst 5, 1) := by decide +kernel
theorem dX5_aim_63 : decode cX5_aim 63 = .ok (.iload 4, 2) := by decide +kernel
theorem dX5_aim_65 : decode cX5_aim 65 = .ok (.imul, 1) := by decide +kernel
theorem dX5_aim_66 : decode cX5_aim 66 = .ok (.if_icmp .gt 17, 3) := by decide +kernel
theorem dX5_aim_69 : decode cX5_aim 69 = .ok (.aload_n 0, 1) := by decide +kernel
theorem dX5_aim_70 : decode cX5_aim 70 = .ok (.getfield 53, 3) := by decide +kernel
theorem dX5_aim_73 : decode cX5_aim 73 = .ok (.ifCond .le 7, 3) := by decide +kernel
theorem dX5_aim_76 : decode cX5_aim 76 = .ok (.iconst 2, 1) := by decide +kernel
theorem dX5_aim_77 : decode cX5_aim 77 = .ok (.goto 5, 3) := by decide +kernel
theorem dX5_aim_80 : decode cX5_aim 80 = .ok (.bipush 6, 2) := by decide +kernel
theorem dX5_aim_82 : decode cX5_aim 82 = .ok (.ireturn, 1) := by decide +kernel
theorem dX5_aim_83 : decode cX5_aim 83 = .ok (.aload_n 0, 1) := by decide +kernel
theorem dX5_aim_84 : decode cX5_aim 84 = .ok (.getfield 47, 3) := by decide +kernel
theorem dX5_aim_87 : decode cX5_aim 87 = .ok (.ifCond .le 19, 3) := by decide +kernel
theorem dX5_aim_90 : decode cX5_aim 90 = .ok (.aload_n 0, 1) := by decide +kernel
theorem dX5_aim_91 : decode cX5_aim 91 = .ok (.getfield 53, 3) := by decide +kernel
theorem dX5_aim_94 : decode cX5_aim 94 = .ok (.ifCond .le 7, 3) := by decide +kernel
theorem dX5_aim_97 : decode cX5_aim 97 = .ok (.iconst 1, 1) := by decide +kernel
theorem dX5_aim_98 : decode cX5_aim 98 = .ok (.goto 20, 3) := by decide +kernel
theorem dX5_aim_101 : decode cX5_aim 101 = .ok (.bipush 7, 2) := by decide +kernel
theorem dX5_aim_103 : decode cX5_aim 103 = .ok (.goto 15, 3) := by decide +kernel
theorem dX5_aim_106 : decode cX5_aim 106 = .ok (.aload_n 0, 1) := by decide +kernel
theorem dX5_aim_107 : decode cX5_aim 107 = .ok (.getfield 53, 3) := by decide +kernel
theorem dX5_aim_110 : decode cX5_aim 110 = .ok (.ifCond .le 7, 3) := by decide +kernel
theorem dX5_aim_113 : decode cX5_aim 113 = .ok (.iconst 3, 1) := by decide +kernel
theorem dX5_aim_114 : decode cX5_aim 114 = .ok (.goto 4, 3) := by decide +kernel
theorem dX5_aim_117 : decode cX5_aim 117 = .ok (.iconst 5, 1) := by decide +kernel
theorem dX5_aim_118 : decode cX5_aim 118 = .ok (.ireturn, 1) := by decide +kernel
set_option maxRecDepth 20000 in
theorem ggX5_turned_X5_aim : GoodIn wsX5_turned wsX5_aim := goodIn_r _ [7, 1, 2, 8, 9, 10, 6, 11, 12, 13, 14, 15, 16, 17, 18, 19, 20, 21, 22, 23, 24, 25, 26, 27, 28, 29, 30, 31, 32, 33, 34, 35, 36, 37, 38, 39, 40, 41, 42, 43, 44, 45] (by decide +kernel) (by decide +kernel)
set_option maxRecDepth 20000 in
theorem gX5_turned_X5_aim : GoodIn wsX5_turned (wsV RX5 74 RX5 yX5_aim wsX5_aim) := goodIn_app (goodIn_of _ (by decide +kernel)) ggX5_turned_X5_aim
set_option maxRecDepth 20000 in
theorem ggX5_turned_X5_size : GoodIn wsX5_turned wsX5_size := goodIn_r _ [31] (by decide +kernel) (by decide +kernel)
set_option maxRecDepth 20000 in
theorem gX5_turned_X5_size : GoodIn wsX5_turned (va_wsS RX5 67 yX5_size wsX5_size) := goodIn_app (goodIn_of _ (by decide +kernel)) ggX5_turned_X5_size
theorem dX5_turned_0 : decode cX5_turned 0 = .ok (.aload_n 1, 1) := by decide +kernel
theorem dX5_turned_1 : decode cX5_turned 1 = .ok (.bipush 6, 2) := by decide +kernel
theorem dX5_turned_3 : decode cX5_turned 3 = .ok (.iload_n 2, 1) := by decide +kernel
theorem dX5_turned_4 : decode cX5_turned 4 = .ok (.iadd, 1) := by decide +kernel
theorem dX5_turned_5 : decode cX5_turned 5 = .ok (.iaload, 1) := by decide +kernel
theorem dX5_turned_6 : decode cX5_turned 6 = .ok (.istore_n 3, 1) := by decide +kernel
theorem dX5_turned_7 : decode cX5_turned 7 = .ok (.aload_n 0, 1) := by decide +kernel
theorem dX5_turned_8 : decode cX5_turned 8 = .ok (.aload_n 1, 1) := by decide +kernel
theorem dX5_turned_9 : decode cX5_turned 9 = .ok (.iload_n 2, 1) := by decide +kernel
theorem dX5_turned_10 : decode cX5_turned 10 = .ok (.invokevirtual 74, 3) := by decide +kernel
theorem dX5_turned_13 : decode cX5_turned 13 = .ok (.istore 4, 2) := by decide +kernel
theorem dX5_turned_15 : decode cX5_turned 15 = .ok (.aload_n 1, 1) := by decide +kernel
theorem dX5_turned_16 : decode cX5_turned 16 = .ok (.bipush 78, 2) := by decide +kernel
theorem dX5_turned_18 : decode cX5_turned 18 = .ok (.iload_n 2, 1) := by decide +kernel
theorem dX5_turned_19 : decode cX5_turned 19 = .ok (.iadd, 1) := by decide +kernel
theorem dX5_turned_20 : decode cX5_turned 20 = .ok (.iaload, 1) := by decide +kernel
theorem dX5_turned_21 : decode cX5_turned 21 = .ok (.iconst 1, 1) := by decide +kernel
theorem dX5_turned_22 : decode cX5_turned 22 = .ok (.if_icmp .eq 39, 3) := by decide +kernel
theorem dX5_turned_25 : decode cX5_turned 25 = .ok (.iload 4, 2) := by decide +kernel
theorem dX5_turned_27 : decode cX5_turned 27 = .ok (.iconst (-1), 1) := by decide +kernel
theorem dX5_turned_28 : decode cX5_turned 28 = .ok (.if_icmp .eq 33, 3) := by decide +kernel
theorem dX5_turned_31 : decode cX5_turned 31 = .ok (.iload 4, 2) := by decide +kernel
theorem dX5_turned_33 : decode cX5_turned 33 = .ok (.iload_n 3, 1) := by decide +kernel
theorem dX5_turned_34 : decode cX5_turned 34 = .ok (.if_icmp .eq 27, 3) := by decide +kernel
theorem dX5_turned_37 : decode cX5_turned 37 = .ok (.aload_n 0, 1) := by decide +kernel
theorem dX5_turned_38 : decode cX5_turned 38 = .ok (.getfield 47, 3) := by decide +kernel
theorem dX5_turned_41 : decode cX5_turned 41 = .ok (.invokestatic 67, 3) := by decide +kernel
theorem dX5_turned_44 : decode cX5_turned 44 = .ok (.aload_n 0, 1) := by decide +kernel
theorem dX5_turned_45 : decode cX5_turned 45 = .ok (.getfield 53, 3) := by decide +kernel
theorem dX5_turned_48 : decode cX5_turned 48 = .ok (.invokestatic 67, 3) := by decide +kernel
theorem dX5_turned_51 : decode cX5_turned 51 = .ok (.iadd, 1) := by decide +kernel
theorem dX5_turned_52 : decode cX5_turned 52 = .ok (.aload_n 1, 1) := by decide +kernel
theorem dX5_turned_53 : decode cX5_turned 53 = .ok (.bipush 42, 2) := by decide +kernel
theorem dX5_turned_55 : decode cX5_turned 55 = .ok (.iload_n 2, 1) := by decide +kernel
theorem dX5_turned_56 : decode cX5_turned 56 = .ok (.iadd, 1) := by decide +kernel
theorem dX5_turned_57 : decode cX5_turned 57 = .ok (.iaload, 1) := by decide +kernel
theorem dX5_turned_58 : decode cX5_turned 58 = .ok (.if_icmp .gt 5, 3) := by decide +kernel
theorem dX5_turned_61 : decode cX5_turned 61 = .ok (.iload_n 3, 1) := by decide +kernel
theorem dX5_turned_62 : decode cX5_turned 62 = .ok (.ireturn, 1) := by decide +kernel
theorem dX5_turned_63 : decode cX5_turned 63 = .ok (.iload 4, 2) := by decide +kernel
theorem dX5_turned_65 : decode cX5_turned 65 = .ok (.iload_n 3, 1) := by decide +kernel
theorem dX5_turned_66 : decode cX5_turned 66 = .ok (.isub, 1) := by decide +kernel
theorem dX5_turned_67 : decode cX5_turned 67 = .ok (.bipush 8, 2) := by decide +kernel
theorem dX5_turned_69 : decode cX5_turned 69 = .ok (.iadd, 1) := by decide +kernel
theorem dX5_turned_70 : decode cX5_turned 70 = .ok (.bipush 8, 2) := by decide +kernel
theorem dX5_turned_72 : decode cX5_turned 72 = .ok (.irem, 1) := by decide +kernel
theorem dX5_turned_73 : decode cX5_turned 73 = .ok (.iconst 4, 1) := by decide +kernel
theorem dX5_turned_74 : decode cX5_turned 74 = .ok (.if_icmp .gt 12, 3) := by decide +kernel
theorem dX5_turned_77 : decode cX5_turned 77 = .ok (.iload_n 3, 1) := by decide +kernel
theorem dX5_turned_78 : decode cX5_turned 78 = .ok (.iconst 1, 1) := by decide +kernel
theorem dX5_turned_79 : decode cX5_turned 79 = .ok (.iadd, 1) := by decide +kernel
theorem dX5_turned_80 : decode cX5_turned 80 = .ok (.bipush 8, 2) := by decide +kernel
theorem dX5_turned_82 : decode cX5_turned 82 = .ok (.irem, 1) := by decide +kernel
theorem dX5_turned_83 : decode cX5_turned 83 = .ok (.goto 10, 3) := by decide +kernel
theorem dX5_turned_86 : decode cX5_turned 86 = .ok (.iload_n 3, 1) := by decide +kernel
theorem dX5_turned_87 : decode cX5_turned 87 = .ok (.bipush 7, 2) := by decide +kernel
theorem dX5_turned_89 : decode cX5_turned 89 = .ok (.iadd, 1) := by decide +kernel
theorem dX5_turned_90 : decode cX5_turned 90 = .ok (.bipush 8, 2) := by decide +kernel
theorem dX5_turned_92 : decode cX5_turned 92 = .ok (.irem, 1) := by decide +kernel
theorem dX5_turned_93 : decode cX5_turned 93 = .ok (.ireturn, 1) := by decide +kernel
set_option maxRecDepth 20000 in
theorem ggX5_allTurn_X5_turned : GoodIn wsX5_allTurn wsX5_turned := goodIn_r _ [6, 7, 8, 9, 10, 11, 5, 12, 13, 14, 15, 16, 17, 18, 19, 20, 21, 22, 23, 24, 25, 26, 27, 28, 29, 30, 31, 32, 33, 34, 35, 36, 37, 38, 39, 40, 41, 42, 43, 44, 45, 46, 47, 48, 49, 50] (by decide +kernel) (by decide +kernel)
set_option maxRecDepth 20000 in
theorem gX5_allTurn_X5_turned : GoodIn wsX5_allTurn (wsV RX5 78 RX5 yX5_turned wsX5_turned) := goodIn_app (goodIn_of _ (by decide +kernel)) ggX5_allTurn_X5_turned
theorem dX5_allTurn_0 : decode cX5_allTurn 0 = .ok (.iconst 0, 1) := by decide +kernel
theorem dX5_allTurn_1 : decode cX5_allTurn 1 = .ok (.istore_n 2, 1) := by decide +kernel
theorem dX5_allTurn_2 : decode cX5_allTurn 2 = .ok (.iconst 0, 1) := by decide +kernel
theorem dX5_allTurn_3 : decode cX5_allTurn 3 = .ok (.istore_n 3, 1) := by decide +kernel
theorem dX5_allTurn_4 : decode cX5_allTurn 4 = .ok (.iload_n 3, 1) := by decide +kernel
theorem dX5_allTurn_5 : decode cX5_allTurn 5 = .ok (.bipush 36, 2) := by decide +kernel
theorem dX5_allTurn_7 : decode cX5_allTurn 7 = .ok (.if_icmp .ge 44, 3) := by decide +kernel
theorem dX5_allTurn_10 : decode cX5_allTurn 10 = .ok (.aload_n 0, 1) := by decide +kernel
theorem dX5_allTurn_11 : decode cX5_allTurn 11 = .ok (.getfield 25, 3) := by decide +kernel
theorem dX5_allTurn_14 : decode cX5_allTurn 14 = .ok (.iload_n 3, 1) := by decide +kernel
theorem dX5_allTurn_15 : decode cX5_allTurn 15 = .ok (.aload_n 0, 1) := by decide +kernel
theorem dX5_allTurn_16 : decode cX5_allTurn 16 = .ok (.aload_n 1, 1) := by decide +kernel
theorem dX5_allTurn_17 : decode cX5_allTurn 17 = .ok (.iload_n 3, 1) := by decide +kernel
theorem dX5_allTurn_18 : decode cX5_allTurn 18 = .ok (.invokevirtual 78, 3) := by decide +kernel
theorem dX5_allTurn_21 : decode cX5_allTurn 21 = .ok (.iastore, 1) := by decide +kernel
theorem dX5_allTurn_22 : decode cX5_allTurn 22 = .ok (.iload_n 2, 1) := by decide +kernel
theorem dX5_allTurn_23 : decode cX5_allTurn 23 = .ok (.aload_n 0, 1) := by decide +kernel
theorem dX5_allTurn_24 : decode cX5_allTurn 24 = .ok (.getfield 25, 3) := by decide +kernel
theorem dX5_allTurn_27 : decode cX5_allTurn 27 = .ok (.iload_n 3, 1) := by decide +kernel
theorem dX5_allTurn_28 : decode cX5_allTurn 28 = .ok (.iaload, 1) := by decide +kernel
theorem dX5_allTurn_29 : decode cX5_allTurn 29 = .ok (.aload_n 1, 1) := by decide +kernel
theorem dX5_allTurn_30 : decode cX5_allTurn 30 = .ok (.bipush 6, 2) := by decide +kernel
theorem dX5_allTurn_32 : decode cX5_allTurn 32 = .ok (.iload_n 3, 1) := by decide +kernel
theorem dX5_allTurn_33 : decode cX5_allTurn 33 = .ok (.iadd, 1) := by decide +kernel
theorem dX5_allTurn_34 : decode cX5_allTurn 34 = .ok (.iaload, 1) := by decide +kernel
theorem dX5_allTurn_35 : decode cX5_allTurn 35 = .ok (.if_icmp .ne 7, 3) := by decide +kernel
theorem dX5_allTurn_38 : decode cX5_allTurn 38 = .ok (.iconst 0, 1) := by decide +kernel
theorem dX5_allTurn_39 : decode cX5_allTurn 39 = .ok (.goto 4, 3) := by decide +kernel
theorem dX5_allTurn_42 : decode cX5_allTurn 42 = .ok (.iconst 1, 1) := by decide +kernel
theorem dX5_allTurn_43 : decode cX5_allTurn 43 = .ok (.iadd, 1) := by decide +kernel
theorem dX5_allTurn_44 : decode cX5_allTurn 44 = .ok (.istore_n 2, 1) := by decide +kernel
theorem dX5_allTurn_45 : decode cX5_allTurn 45 = .ok (.iinc 3 1, 3) := by decide +kernel
theorem dX5_allTurn_48 : decode cX5_allTurn 48 = .ok (.goto (-44), 3) := by decide +kernel
theorem dX5_allTurn_51 : decode cX5_allTurn 51 = .ok (.iconst 0, 1) := by decide +kernel
theorem dX5_allTurn_52 : decode cX5_allTurn 52 = .ok (.istore_n 3, 1) := by decide +kernel
theorem dX5_allTurn_53 : decode cX5_allTurn 53 = .ok (.iload_n 3, 1) := by decide +kernel
theorem dX5_allTurn_54 : decode cX5_allTurn 54 = .ok (.bipush 36, 2) := by decide +kernel
theorem dX5_allTurn_56 : decode cX5_allTurn 56 = .ok (.if_icmp .ge 21, 3) := by decide +kernel
theorem dX5_allTurn_59 : decode cX5_allTurn 59 = .ok (.aload_n 1, 1) := by decide +kernel
theorem dX5_allTurn_60 : decode cX5_allTurn 60 = .ok (.bipush 6, 2) := by decide +kernel
theorem dX5_allTurn_62 : decode cX5_allTurn 62 = .ok (.iload_n 3, 1) := by decide +kernel
theorem dX5_allTurn_63 : decode cX5_allTurn 63 = .ok (.iadd, 1) := by decide +kernel
theorem dX5_allTurn_64 : decode cX5_allTurn 64 = .ok (.aload_n 0, 1) := by decide +kernel
theorem dX5_allTurn_65 : decode cX5_allTurn 65 = .ok (.getfield 25, 3) := by decide +kernel
theorem dX5_allTurn_68 : decode cX5_allTurn 68 = .ok (.iload_n 3, 1) := by decide +kernel
theorem dX5_allTurn_69 : decode cX5_allTurn 69 = .ok (.iaload, 1) := by decide +kernel
theorem dX5_allTurn_70 : decode cX5_allTurn 70 = .ok (.iastore, 1) := by decide +kernel
theorem dX5_allTurn_71 : decode cX5_allTurn 71 = .ok (.iinc 3 1, 3) := by decide +kernel
theorem dX5_allTurn_74 : decode cX5_allTurn 74 = .ok (.goto (-21), 3) := by decide +kernel
theorem dX5_allTurn_77 : decode cX5_allTurn 77 = .ok (.iload_n 2, 1) := by decide +kernel
theorem dX5_allTurn_78 : decode cX5_allTurn 78 = .ok (.ireturn, 1) := by decide +kernel
set_option maxRecDepth 20000 in
theorem ggX5_away_X5_aim : GoodIn wsX5_away wsX5_aim := goodIn_r _ [5, 6, 7, 8, 9, 10, 4, 11, 12, 13, 14, 15, 16, 17, 18, 19, 20, 21, 22, 23, 24, 25, 26, 27, 28, 29, 30, 31, 32, 33, 34, 35, 36, 37, 38, 39, 40, 41, 42, 43, 44, 45] (by decide +kernel) (by decide +kernel)
set_option maxRecDepth 20000 in
theorem gX5_away_X5_aim : GoodIn wsX5_away (wsV RX5 74 RX5 yX5_aim wsX5_aim) := goodIn_app (goodIn_of _ (by decide +kernel)) ggX5_away_X5_aim
theorem dX5_away_0 : decode cX5_away 0 = .ok (.aload_n 0, 1) := by decide +kernel
theorem dX5_away_1 : decode cX5_away 1 = .ok (.aload_n 1, 1) := by decide +kernel
theorem dX5_away_2 : decode cX5_away 2 = .ok (.iload_n 2, 1) := by decide +kernel
theorem dX5_away_3 : decode cX5_away 3 = .ok (.invokevirtual 74, 3) := by decide +kernel
theorem dX5_away_6 : decode cX5_away 6 = .ok (.istore_n 3, 1) := by decide +kernel
theorem dX5_away_7 : decode cX5_away 7 = .ok (.iload_n 3, 1) := by decide +kernel
theorem dX5_away_8 : decode cX5_away 8 = .ok (.aload_n 1, 1) := by decide +kernel
theorem dX5_away_9 : decode cX5_away 9 = .ok (.bipush 6, 2) := by decide +kernel
theorem dX5_away_11 : decode cX5_away 11 = .ok (.iload_n 2, 1) := by decide +kernel
theorem dX5_away_12 : decode cX5_away 12 = .ok (.iadd, 1) := by decide +kernel
theorem dX5_away_13 : decode cX5_away 13 = .ok (.iaload, 1) := by decide +kernel
theorem dX5_away_14 : decode cX5_away 14 = .ok (.isub, 1) := by decide +kernel
theorem dX5_away_15 : decode cX5_away 15 = .ok (.bipush 8, 2) := by decide +kernel
theorem dX5_away_17 : decode cX5_away 17 = .ok (.iadd, 1) := by decide +kernel
theorem dX5_away_18 : decode cX5_away 18 = .ok (.bipush 8, 2) := by decide +kernel
theorem dX5_away_20 : decode cX5_away 20 = .ok (.irem, 1) := by decide +kernel
theorem dX5_away_21 : decode cX5_away 21 = .ok (.istore 4, 2) := by decide +kernel
theorem dX5_away_23 : decode cX5_away 23 = .ok (.iload_n 3, 1) := by decide +kernel
theorem dX5_away_24 : decode cX5_away 24 = .ok (.iconst (-1), 1) := by decide +kernel
theorem dX5_away_25 : decode cX5_away 25 = .ok (.if_icmp .ne 7, 3) := by decide +kernel
theorem dX5_away_28 : decode cX5_away 28 = .ok (.iconst (-1), 1) := by decide +kernel
theorem dX5_away_29 : decode cX5_away 29 = .ok (.goto 19, 3) := by decide +kernel
theorem dX5_away_32 : decode cX5_away 32 = .ok (.iload 4, 2) := by decide +kernel
theorem dX5_away_34 : decode cX5_away 34 = .ok (.iconst 4, 1) := by decide +kernel
theorem dX5_away_35 : decode cX5_away 35 = .ok (.if_icmp .le 11, 3) := by decide +kernel
theorem dX5_away_38 : decode cX5_away 38 = .ok (.bipush 8, 2) := by decide +kernel
theorem dX5_away_40 : decode cX5_away 40 = .ok (.iload 4, 2) := by decide +kernel
theorem dX5_away_42 : decode cX5_away 42 = .ok (.isub, 1) := by decide +kernel
theorem dX5_away_43 : decode cX5_away 43 = .ok (.goto 5, 3) := by decide +kernel
theorem dX5_away_46 : decode cX5_away 46 = .ok (.iload 4, 2) := by decide +kernel
theorem dX5_away_48 : decode cX5_away 48 = .ok (.ireturn, 1) := by decide +kernel
theorem dX5_changes_0 : decode cX5_changes 0 = .ok (.aload_n 0, 1) := by decide +kernel
theorem dX5_changes_1 : decode cX5_changes 1 = .ok (.getfield 7, 3) := by decide +kernel
theorem dX5_changes_4 : decode cX5_changes 4 = .ok (.iload_n 1, 1) := by decide +kernel
theorem dX5_changes_5 : decode cX5_changes 5 = .ok (.iaload, 1) := by decide +kernel
theorem dX5_changes_6 : decode cX5_changes 6 = .ok (.istore_n 3, 1) := by decide +kernel
theorem dX5_changes_7 : decode cX5_changes 7 = .ok (.aload_n 0, 1) := by decide +kernel
theorem dX5_changes_8 : decode cX5_changes 8 = .ok (.getfield 7, 3) := by decide +kernel
theorem dX5_changes_11 : decode cX5_changes 11 = .ok (.iload_n 1, 1) := by decide +kernel
theorem dX5_changes_12 : decode cX5_changes 12 = .ok (.iload_n 2, 1) := by decide +kernel
theorem dX5_changes_13 : decode cX5_changes 13 = .ok (.iastore, 1) := by decide +kernel
theorem dX5_changes_14 : decode cX5_changes 14 = .ok (.iload_n 3, 1) := by decide +kernel
theorem dX5_changes_15 : decode cX5_changes 15 = .ok (.ireturn, 1) := by decide +kernel
set_option maxRecDepth 20000 in
theorem ggX5_needle_X5_isCell : GoodIn wsX5_needle wsX5_isCell := goodIn_r _ [5, 6, 7, 4, 8] (by decide +kernel) (by decide +kernel)
set_option maxRecDepth 20000 in
theorem gX5_needle_X5_isCell : GoodIn wsX5_needle (va_wsS RX5 81 yX5_isCell wsX5_isCell) := goodIn_app (goodIn_of _ (by decide +kernel)) ggX5_needle_X5_isCell
set_option maxRecDepth 20000 in
theorem ggX5_needle_X5_fails : GoodIn wsX5_needle wsX5_fails := goodIn_r _ [12, 1, 30, 31, 32, 33, 34, 35, 36, 37, 38, 39, 40, 41, 42, 43] (by decide +kernel) (by decide +kernel)
set_option maxRecDepth 20000 in
theorem gX5_needle_X5_fails : GoodIn wsX5_needle (wsV RX5 43 RX5 yX5_fails wsX5_fails) := goodIn_app (goodIn_of _ (by decide +kernel)) ggX5_needle_X5_fails
set_option maxRecDepth 20000 in
theorem ggX5_needle_X5_isDirection : GoodIn wsX5_needle wsX5_isDirection := goodIn_r _ [15, 6, 7, 4, 8] (by decide +kernel) (by decide +kernel)
set_option maxRecDepth 20000 in
theorem gX5_needle_X5_isDirection : GoodIn wsX5_needle (va_wsS RX5 85 yX5_isDirection wsX5_isDirection) := goodIn_app (goodIn_of _ (by decide +kernel)) ggX5_needle_X5_isDirection
set_option maxRecDepth 20000 in
theorem ggX5_needle_X5_saves : GoodIn wsX5_needle wsX5_saves := goodIn_r _ [19, 20, 21, 22, 23, 24, 4, 25, 30, 31, 32, 33, 34, 35, 36, 37, 38, 39, 40, 41, 42, 43] (by decide +kernel) (by decide +kernel)
set_option maxRecDepth 20000 in
theorem gX5_needle_X5_saves : GoodIn wsX5_needle (wsV RX5 88 RX5 yX5_saves wsX5_saves) := goodIn_app (goodIn_of _ (by decide +kernel)) ggX5_needle_X5_saves
set_option maxRecDepth 20000 in
theorem ggX5_needle_X5_changes : GoodIn wsX5_needle wsX5_changes := goodIn_r _ [29, 22, 30, 31, 32, 33, 34, 35, 36, 37, 38, 39, 40, 41, 42, 43] (by decide +kernel) (by decide +kernel)
set_option maxRecDepth 20000 in
theorem gX5_needle_X5_changes : GoodIn wsX5_needle (wsV RX5 91 RX5 yX5_changes wsX5_changes) := goodIn_app (goodIn_of _ (by decide +kernel)) ggX5_needle_X5_changes
theorem dX5_needle_0 : decode cX5_needle 0 = .ok (.aload_n 0, 1) := by decide +kernel
theorem dX5_needle_1 : decode cX5_needle 1 = .ok (.iconst 0, 1) := by decide +kernel
theorem dX5_needle_2 : decode cX5_needle 2 = .ok (.putfield 28, 3) := by decide +kernel
theorem dX5_needle_5 : decode cX5_needle 5 = .ok (.iload_n 1, 1) := by decide +kernel
theorem dX5_needle_6 : decode cX5_needle 6 = .ok (.invokestatic 81, 3) := by decide +kernel
theorem dX5_needle_9 : decode cX5_needle 9 = .ok (.ifCond .ne 9, 3) := by decide +kernel
theorem dX5_needle_12 : decode cX5_needle 12 = .ok (.aload_n 0, 1) := by decide +kernel
theorem dX5_needle_13 : decode cX5_needle 13 = .ok (.iconst 1, 1) := by decide +kernel
theorem dX5_needle_14 : decode cX5_needle 14 = .ok (.invokevirtual 43, 3) := by decide +kernel
theorem dX5_needle_17 : decode cX5_needle 17 = .ok (.ireturn, 1) := by decide +kernel
theorem dX5_needle_18 : decode cX5_needle 18 = .ok (.iload_n 2, 1) := by decide +kernel
theorem dX5_needle_19 : decode cX5_needle 19 = .ok (.invokestatic 85, 3) := by decide +kernel
theorem dX5_needle_22 : decode cX5_needle 22 = .ok (.ifCond .ne 9, 3) := by decide +kernel
theorem dX5_needle_25 : decode cX5_needle 25 = .ok (.aload_n 0, 1) := by decide +kernel
theorem dX5_needle_26 : decode cX5_needle 26 = .ok (.iconst 2, 1) := by decide +kernel
theorem dX5_needle_27 : decode cX5_needle 27 = .ok (.invokevirtual 43, 3) := by decide +kernel
theorem dX5_needle_30 : decode cX5_needle 30 = .ok (.ireturn, 1) := by decide +kernel
theorem dX5_needle_31 : decode cX5_needle 31 = .ok (.aload_n 0, 1) := by decide +kernel
theorem dX5_needle_32 : decode cX5_needle 32 = .ok (.invokevirtual 88, 3) := by decide +kernel
theorem dX5_needle_35 : decode cX5_needle 35 = .ok (.aload_n 0, 1) := by decide +kernel
theorem dX5_needle_36 : decode cX5_needle 36 = .ok (.bipush 6, 2) := by decide +kernel
theorem dX5_needle_38 : decode cX5_needle 38 = .ok (.iload_n 1, 1) := by decide +kernel
theorem dX5_needle_39 : decode cX5_needle 39 = .ok (.iadd, 1) := by decide +kernel
theorem dX5_needle_40 : decode cX5_needle 40 = .ok (.iload_n 2, 1) := by decide +kernel
theorem dX5_needle_41 : decode cX5_needle 41 = .ok (.invokevirtual 91, 3) := by decide +kernel
theorem dX5_needle_44 : decode cX5_needle 44 = .ok (.ireturn, 1) := by decide +kernel
set_option maxRecDepth 20000 in
theorem ggX5_friction_X5_isCell : GoodIn wsX5_friction wsX5_isCell := goodIn_r _ [5, 6, 7, 4, 8] (by decide +kernel) (by decide +kernel)
set_option maxRecDepth 20000 in
theorem gX5_friction_X5_isCell : GoodIn wsX5_friction (va_wsS RX5 81 yX5_isCell wsX5_isCell) := goodIn_app (goodIn_of _ (by decide +kernel)) ggX5_friction_X5_isCell
set_option maxRecDepth 20000 in
theorem ggX5_friction_X5_fails : GoodIn wsX5_friction wsX5_fails := goodIn_r _ [12, 1, 27, 28, 29, 30, 31, 32, 33, 34, 35, 36, 37, 38, 39, 40] (by decide +kernel) (by decide +kernel)
set_option maxRecDepth 20000 in
theorem gX5_friction_X5_fails : GoodIn wsX5_friction (wsV RX5 43 RX5 yX5_fails wsX5_fails) := goodIn_app (goodIn_of _ (by decide +kernel)) ggX5_friction_X5_fails
set_option maxRecDepth 20000 in
theorem ggX5_friction_X5_in : GoodIn wsX5_friction wsX5_in := goodIn_r _ [8] (by decide +kernel) (by decide +kernel)
set_option maxRecDepth 20000 in
theorem gX5_friction_X5_in : GoodIn wsX5_friction (va_wsS RX5 32 yX5_in wsX5_in) := goodIn_app (goodIn_of _ (by decide +kernel)) ggX5_friction_X5_in
set_option maxRecDepth 20000 in
theorem ggX5_friction_X5_saves : GoodIn wsX5_friction wsX5_saves := goodIn_r _ [16, 17, 18, 19, 20, 21, 4, 22, 27, 28, 29, 30, 31, 32, 33, 34, 35, 36, 37, 38, 39, 40] (by decide +kernel) (by decide +kernel)
set_option maxRecDepth 20000 in
theorem gX5_friction_X5_saves : GoodIn wsX5_friction (wsV RX5 88 RX5 yX5_saves wsX5_saves) := goodIn_app (goodIn_of _ (by decide +kernel)) ggX5_friction_X5_saves
set_option maxRecDepth 20000 in
theorem ggX5_friction_X5_changes : GoodIn wsX5_friction wsX5_changes := goodIn_r _ [26, 19, 27, 28, 29, 30, 31, 32, 33, 34, 35, 36, 37, 38, 39, 40] (by decide +kernel) (by decide +kernel)
set_option maxRecDepth 20000 in
theorem gX5_friction_X5_changes : GoodIn wsX5_friction (wsV RX5 91 RX5 yX5_changes wsX5_changes) := goodIn_app (goodIn_of _ (by decide +kernel)) ggX5_friction_X5_changes
theorem dX5_friction_0 : decode cX5_friction 0 = .ok (.aload_n 0, 1) := by decide +kernel
theorem dX5_friction_1 : decode cX5_friction 1 = .ok (.iconst 0, 1) := by decide +kernel
theorem dX5_friction_2 : decode cX5_friction 2 = .ok (.putfield 28, 3) := by decide +kernel
theorem dX5_friction_5 : decode cX5_friction 5 = .ok (.iload_n 1, 1) := by decide +kernel
theorem dX5_friction_6 : decode cX5_friction 6 = .ok (.invokestatic 81, 3) := by decide +kernel
theorem dX5_friction_9 : decode cX5_friction 9 = .ok (.ifCond .ne 9, 3) := by decide +kernel
theorem dX5_friction_12 : decode cX5_friction 12 = .ok (.aload_n 0, 1) := by decide +kernel
theorem dX5_friction_13 : decode cX5_friction 13 = .ok (.iconst 1, 1) := by decide +kernel
theorem dX5_friction_14 : decode cX5_friction 14 = .ok (.invokevirtual 43, 3) := by decide +kernel
theorem dX5_friction_17 : decode cX5_friction 17 = .ok (.ireturn, 1) := by decide +kernel
theorem dX5_friction_18 : decode cX5_friction 18 = .ok (.iload_n 2, 1) := by decide +kernel
theorem dX5_friction_19 : decode cX5_friction 19 = .ok (.iconst 0, 1) := by decide +kernel
theorem dX5_friction_20 : decode cX5_friction 20 = .ok (.sipush 999, 3) := by decide +kernel
theorem dX5_friction_23 : decode cX5_friction 23 = .ok (.invokestatic 32, 3) := by decide +kernel
theorem dX5_friction_26 : decode cX5_friction 26 = .ok (.ifCond .ne 9, 3) := by decide +kernel
theorem dX5_friction_29 : decode cX5_friction 29 = .ok (.aload_n 0, 1) := by decide +kernel
theorem dX5_friction_30 : decode cX5_friction 30 = .ok (.iconst 2, 1) := by decide +kernel
theorem dX5_friction_31 : decode cX5_friction 31 = .ok (.invokevirtual 43, 3) := by decide +kernel
theorem dX5_friction_34 : decode cX5_friction 34 = .ok (.ireturn, 1) := by decide +kernel
theorem dX5_friction_35 : decode cX5_friction 35 = .ok (.aload_n 0, 1) := by decide +kernel
theorem dX5_friction_36 : decode cX5_friction 36 = .ok (.invokevirtual 88, 3) := by decide +kernel
theorem dX5_friction_39 : decode cX5_friction 39 = .ok (.aload_n 0, 1) := by decide +kernel
theorem dX5_friction_40 : decode cX5_friction 40 = .ok (.bipush 42, 2) := by decide +kernel
theorem dX5_friction_42 : decode cX5_friction 42 = .ok (.iload_n 1, 1) := by decide +kernel
theorem dX5_friction_43 : decode cX5_friction 43 = .ok (.iadd, 1) := by decide +kernel
theorem dX5_friction_44 : decode cX5_friction 44 = .ok (.iload_n 2, 1) := by decide +kernel
theorem dX5_friction_45 : decode cX5_friction 45 = .ok (.invokevirtual 91, 3) := by decide +kernel
theorem dX5_friction_48 : decode cX5_friction 48 = .ok (.ireturn, 1) := by decide +kernel
set_option maxRecDepth 20000 in
theorem ggX5_hold_X5_isCell : GoodIn wsX5_hold wsX5_isCell := goodIn_r _ [5, 6, 7, 4, 8] (by decide +kernel) (by decide +kernel)
set_option maxRecDepth 20000 in
theorem gX5_hold_X5_isCell : GoodIn wsX5_hold (va_wsS RX5 81 yX5_isCell wsX5_isCell) := goodIn_app (goodIn_of _ (by decide +kernel)) ggX5_hold_X5_isCell
set_option maxRecDepth 20000 in
theorem ggX5_hold_X5_fails : GoodIn wsX5_hold wsX5_fails := goodIn_r _ [12, 1, 27, 28, 29, 30, 31, 32, 33, 34, 35, 36, 37, 38, 39, 40] (by decide +kernel) (by decide +kernel)
set_option maxRecDepth 20000 in
theorem gX5_hold_X5_fails : GoodIn wsX5_hold (wsV RX5 43 RX5 yX5_fails wsX5_fails) := goodIn_app (goodIn_of _ (by decide +kernel)) ggX5_hold_X5_fails
set_option maxRecDepth 20000 in
theorem ggX5_hold_X5_saves : GoodIn wsX5_hold wsX5_saves := goodIn_r _ [16, 17, 18, 19, 20, 21, 4, 22, 27, 28, 29, 30, 31, 32, 33, 34, 35, 36, 37, 38, 39, 40] (by decide +kernel) (by decide +kernel)
set_option maxRecDepth 20000 in
theorem gX5_hold_X5_saves : GoodIn wsX5_hold (wsV RX5 88 RX5 yX5_saves wsX5_saves) := goodIn_app (goodIn_of _ (by decide +kernel)) ggX5_hold_X5_saves
set_option maxRecDepth 20000 in
theorem ggX5_hold_X5_changes : GoodIn wsX5_hold wsX5_changes := goodIn_r _ [26, 19, 27, 28, 29, 30, 31, 32, 33, 34, 35, 36, 37, 38, 39, 40] (by decide +kernel) (by decide +kernel)
set_option maxRecDepth 20000 in
theorem gX5_hold_X5_changes : GoodIn wsX5_hold (wsV RX5 91 RX5 yX5_changes wsX5_changes) := goodIn_app (goodIn_of _ (by decide +kernel)) ggX5_hold_X5_changes
theorem dX5_hold_0 : decode cX5_hold 0 = .ok (.aload_n 0, 1) := by decide +kernel
theorem dX5_hold_1 : decode cX5_hold 1 = .ok (.iconst 0, 1) := by decide +kernel
theorem dX5_hold_2 : decode cX5_hold 2 = .ok (.putfield 28, 3) := by decide +kernel
theorem dX5_hold_5 : decode cX5_hold 5 = .ok (.iload_n 1, 1) := by decide +kernel
theorem dX5_hold_6 : decode cX5_hold 6 = .ok (.invokestatic 81, 3) := by decide +kernel
theorem dX5_hold_9 : decode cX5_hold 9 = .ok (.ifCond .ne 9, 3) := by decide +kernel
theorem dX5_hold_12 : decode cX5_hold 12 = .ok (.aload_n 0, 1) := by decide +kernel
theorem dX5_hold_13 : decode cX5_hold 13 = .ok (.iconst 1, 1) := by decide +kernel
theorem dX5_hold_14 : decode cX5_hold 14 = .ok (.invokevirtual 43, 3) := by decide +kernel
theorem dX5_hold_17 : decode cX5_hold 17 = .ok (.ireturn, 1) := by decide +kernel
theorem dX5_hold_18 : decode cX5_hold 18 = .ok (.aload_n 0, 1) := by decide +kernel
theorem dX5_hold_19 : decode cX5_hold 19 = .ok (.invokevirtual 88, 3) := by decide +kernel
theorem dX5_hold_22 : decode cX5_hold 22 = .ok (.aload_n 0, 1) := by decide +kernel
theorem dX5_hold_23 : decode cX5_hold 23 = .ok (.bipush 78, 2) := by decide +kernel
theorem dX5_hold_25 : decode cX5_hold 25 = .ok (.iload_n 1, 1) := by decide +kernel
theorem dX5_hold_26 : decode cX5_hold 26 = .ok (.iadd, 1) := by decide +kernel
theorem dX5_hold_27 : decode cX5_hold 27 = .ok (.iload_n 2, 1) := by decide +kernel
theorem dX5_hold_28 : decode cX5_hold 28 = .ok (.ifCond .eq 7, 3) := by decide +kernel
theorem dX5_hold_31 : decode cX5_hold 31 = .ok (.iconst 1, 1) := by decide +kernel
theorem dX5_hold_32 : decode cX5_hold 32 = .ok (.goto 4, 3) := by decide +kernel
theorem dX5_hold_35 : decode cX5_hold 35 = .ok (.iconst 0, 1) := by decide +kernel
theorem dX5_hold_36 : decode cX5_hold 36 = .ok (.invokevirtual 91, 3) := by decide +kernel
theorem dX5_hold_39 : decode cX5_hold 39 = .ok (.ireturn, 1) := by decide +kernel
set_option maxRecDepth 20000 in
theorem ggX5_swap_X5_isCell : GoodIn wsX5_swap wsX5_isCell := goodIn_r _ [6, 7, 8, 5, 9] (by decide +kernel) (by decide +kernel)
set_option maxRecDepth 20000 in
theorem gX5_swap_X5_isCell : GoodIn wsX5_swap (va_wsS RX5 81 yX5_isCell wsX5_isCell) := goodIn_app (goodIn_of _ (by decide +kernel)) ggX5_swap_X5_isCell
set_option maxRecDepth 20000 in
theorem ggX5_swap_X5_fails : GoodIn wsX5_swap wsX5_fails := goodIn_r _ [13, 1, 27, 28, 29, 30, 31, 32, 33, 34, 35, 36, 37, 38, 39, 40] (by decide +kernel) (by decide +kernel)
set_option maxRecDepth 20000 in
theorem gX5_swap_X5_fails : GoodIn wsX5_swap (wsV RX5 43 RX5 yX5_fails wsX5_fails) := goodIn_app (goodIn_of _ (by decide +kernel)) ggX5_swap_X5_fails
set_option maxRecDepth 20000 in
theorem ggX5_swap_X5_saves : GoodIn wsX5_swap wsX5_saves := goodIn_r _ [17, 18, 19, 2, 20, 21, 5, 22, 27, 28, 29, 30, 31, 32, 33, 34, 35, 36, 37, 38, 39, 40] (by decide +kernel) (by decide +kernel)
set_option maxRecDepth 20000 in
theorem gX5_swap_X5_saves : GoodIn wsX5_swap (wsV RX5 88 RX5 yX5_saves wsX5_saves) := goodIn_app (goodIn_of _ (by decide +kernel)) ggX5_swap_X5_saves
set_option maxRecDepth 20000 in
theorem ggX5_swap_X5_changes : GoodIn wsX5_swap wsX5_changes := goodIn_r _ [26, 2, 27, 28, 29, 30, 31, 32, 33, 34, 35, 36, 37, 38, 39, 40] (by decide +kernel) (by decide +kernel)
set_option maxRecDepth 20000 in
theorem gX5_swap_X5_changes : GoodIn wsX5_swap (wsV RX5 91 RX5 yX5_changes wsX5_changes) := goodIn_app (goodIn_of _ (by decide +kernel)) ggX5_swap_X5_changes
theorem dX5_swap_0 : decode cX5_swap 0 = .ok (.aload_n 0, 1) := by decide +kernel
theorem dX5_swap_1 : decode cX5_swap 1 = .ok (.iconst 0, 1) := by decide +kernel
theorem dX5_swap_2 : decode cX5_swap 2 = .ok (.putfield 28, 3) := by decide +kernel
theorem dX5_swap_5 : decode cX5_swap 5 = .ok (.iload_n 1, 1) := by decide +kernel
theorem dX5_swap_6 : decode cX5_swap 6 = .ok (.invokestatic 81, 3) := by decide +kernel
theorem dX5_swap_9 : decode cX5_swap 9 = .ok (.ifCond .eq 10, 3) := by decide +kernel
theorem dX5_swap_12 : decode cX5_swap 12 = .ok (.iload_n 2, 1) := by decide +kernel
theorem dX5_swap_13 : decode cX5_swap 13 = .ok (.invokestatic 81, 3) := by decide +kernel
theorem dX5_swap_16 : decode cX5_swap 16 = .ok (.ifCond .ne 9, 3) := by decide +kernel
theorem dX5_swap_19 : decode cX5_swap 19 = .ok (.aload_n 0, 1) := by decide +kernel
theorem dX5_swap_20 : decode cX5_swap 20 = .ok (.iconst 1, 1) := by decide +kernel
theorem dX5_swap_21 : decode cX5_swap 21 = .ok (.invokevirtual 43, 3) := by decide +kernel
theorem dX5_swap_24 : decode cX5_swap 24 = .ok (.ireturn, 1) := by decide +kernel
theorem dX5_swap_25 : decode cX5_swap 25 = .ok (.aload_n 0, 1) := by decide +kernel
theorem dX5_swap_26 : decode cX5_swap 26 = .ok (.invokevirtual 88, 3) := by decide +kernel
theorem dX5_swap_29 : decode cX5_swap 29 = .ok (.aload_n 0, 1) := by decide +kernel
theorem dX5_swap_30 : decode cX5_swap 30 = .ok (.bipush 6, 2) := by decide +kernel
theorem dX5_swap_32 : decode cX5_swap 32 = .ok (.iload_n 2, 1) := by decide +kernel
theorem dX5_swap_33 : decode cX5_swap 33 = .ok (.iadd, 1) := by decide +kernel
theorem dX5_swap_34 : decode cX5_swap 34 = .ok (.aload_n 0, 1) := by decide +kernel
theorem dX5_swap_35 : decode cX5_swap 35 = .ok (.bipush 6, 2) := by decide +kernel
theorem dX5_swap_37 : decode cX5_swap 37 = .ok (.iload_n 1, 1) := by decide +kernel
theorem dX5_swap_38 : decode cX5_swap 38 = .ok (.iadd, 1) := by decide +kernel
theorem dX5_swap_39 : decode cX5_swap 39 = .ok (.aload_n 0, 1) := by decide +kernel
theorem dX5_swap_40 : decode cX5_swap 40 = .ok (.getfield 7, 3) := by decide +kernel
theorem dX5_swap_43 : decode cX5_swap 43 = .ok (.bipush 6, 2) := by decide +kernel
theorem dX5_swap_45 : decode cX5_swap 45 = .ok (.iload_n 2, 1) := by decide +kernel
theorem dX5_swap_46 : decode cX5_swap 46 = .ok (.iadd, 1) := by decide +kernel
theorem dX5_swap_47 : decode cX5_swap 47 = .ok (.iaload, 1) := by decide +kernel
theorem dX5_swap_48 : decode cX5_swap 48 = .ok (.invokevirtual 91, 3) := by decide +kernel
theorem dX5_swap_51 : decode cX5_swap 51 = .ok (.invokevirtual 91, 3) := by decide +kernel
theorem dX5_swap_54 : decode cX5_swap 54 = .ok (.pop, 1) := by decide +kernel
theorem dX5_swap_55 : decode cX5_swap 55 = .ok (.aload_n 0, 1) := by decide +kernel
theorem dX5_swap_56 : decode cX5_swap 56 = .ok (.bipush 42, 2) := by decide +kernel
theorem dX5_swap_58 : decode cX5_swap 58 = .ok (.iload_n 2, 1) := by decide +kernel
theorem dX5_swap_59 : decode cX5_swap 59 = .ok (.iadd, 1) := by decide +kernel
theorem dX5_swap_60 : decode cX5_swap 60 = .ok (.aload_n 0, 1) := by decide +kernel
theorem dX5_swap_61 : decode cX5_swap 61 = .ok (.bipush 42, 2) := by decide +kernel
theorem dX5_swap_63 : decode cX5_swap 63 = .ok (.iload_n 1, 1) := by decide +kernel
theorem dX5_swap_64 : decode cX5_swap 64 = .ok (.iadd, 1) := by decide +kernel
theorem dX5_swap_65 : decode cX5_swap 65 = .ok (.aload_n 0, 1) := by decide +kernel
theorem dX5_swap_66 : decode cX5_swap 66 = .ok (.getfield 7, 3) := by decide +kernel
theorem dX5_swap_69 : decode cX5_swap 69 = .ok (.bipush 42, 2) := by decide +kernel
theorem dX5_swap_71 : decode cX5_swap 71 = .ok (.iload_n 2, 1) := by decide +kernel
theorem dX5_swap_72 : decode cX5_swap 72 = .ok (.iadd, 1) := by decide +kernel
theorem dX5_swap_73 : decode cX5_swap 73 = .ok (.iaload, 1) := by decide +kernel
theorem dX5_swap_74 : decode cX5_swap 74 = .ok (.invokevirtual 91, 3) := by decide +kernel
theorem dX5_swap_77 : decode cX5_swap 77 = .ok (.invokevirtual 91, 3) := by decide +kernel
theorem dX5_swap_80 : decode cX5_swap 80 = .ok (.pop, 1) := by decide +kernel
theorem dX5_swap_81 : decode cX5_swap 81 = .ok (.aload_n 0, 1) := by decide +kernel
theorem dX5_swap_82 : decode cX5_swap 82 = .ok (.getfield 7, 3) := by decide +kernel
theorem dX5_swap_85 : decode cX5_swap 85 = .ok (.bipush 6, 2) := by decide +kernel
theorem dX5_swap_87 : decode cX5_swap 87 = .ok (.iload_n 1, 1) := by decide +kernel
theorem dX5_swap_88 : decode cX5_swap 88 = .ok (.iadd, 1) := by decide +kernel
theorem dX5_swap_89 : decode cX5_swap 89 = .ok (.iaload, 1) := by decide +kernel
theorem dX5_swap_90 : decode cX5_swap 90 = .ok (.ireturn, 1) := by decide +kernel
theorem dX5_lying_0 : decode cX5_lying 0 = .ok (.iconst 0, 1) := by decide +kernel
theorem dX5_lying_1 : decode cX5_lying 1 = .ok (.istore_n 1, 1) := by decide +kernel
theorem dX5_lying_2 : decode cX5_lying 2 = .ok (.iconst 0, 1) := by decide +kernel
theorem dX5_lying_3 : decode cX5_lying 3 = .ok (.istore_n 2, 1) := by decide +kernel
theorem dX5_lying_4 : decode cX5_lying 4 = .ok (.iload_n 2, 1) := by decide +kernel
theorem dX5_lying_5 : decode cX5_lying 5 = .ok (.bipush 36, 2) := by decide +kernel
theorem dX5_lying_7 : decode cX5_lying 7 = .ok (.if_icmp .ge 27, 3) := by decide +kernel
theorem dX5_lying_10 : decode cX5_lying 10 = .ok (.iload_n 1, 1) := by decide +kernel
theorem dX5_lying_11 : decode cX5_lying 11 = .ok (.aload_n 0, 1) := by decide +kernel
theorem dX5_lying_12 : decode cX5_lying 12 = .ok (.sipush 150, 3) := by decide +kernel
