theorem dX2_addToField_4 : decode cX2_addToField 4 = .ok (.iload_n 1, 1) := by decide +kernel
theorem dX2_addToField_5 : decode cX2_addToField 5 = .ok (.dup2, 1) := by decide +kernel
theorem dX2_addToField_6 : decode cX2_addToField 6 = .ok (.iaload, 1) := by decide +kernel
theorem dX2_addToField_7 : decode cX2_addToField 7 = .ok (.iload_n 2, 1) := by decide +kernel
theorem dX2_addToField_8 : decode cX2_addToField 8 = .ok (.iadd, 1) := by decide +kernel
theorem dX2_addToField_9 : decode cX2_addToField 9 = .ok (.iastore, 1) := by decide +kernel
theorem dX2_addToField_10 : decode cX2_addToField 10 = .ok (.aload_n 0, 1) := by decide +kernel
theorem dX2_addToField_11 : decode cX2_addToField 11 = .ok (.getfield 40, 3) := by decide +kernel
theorem dX2_addToField_14 : decode cX2_addToField 14 = .ok (.iload_n 1, 1) := by decide +kernel
theorem dX2_addToField_15 : decode cX2_addToField 15 = .ok (.dup2, 1) := by decide +kernel
theorem dX2_addToField_16 : decode cX2_addToField 16 = .ok (.iaload, 1) := by decide +kernel
theorem dX2_addToField_17 : decode cX2_addToField 17 = .ok (.iload_n 3, 1) := by decide +kernel
theorem dX2_addToField_18 : decode cX2_addToField 18 = .ok (.iadd, 1) := by decide +kernel
theorem dX2_addToField_19 : decode cX2_addToField 19 = .ok (.iastore, 1) := by decide +kernel
theorem dX2_addToField_20 : decode cX2_addToField 20 = .ok (.return_, 1) := by decide +kernel
set_option maxRecDepth 20000 in
theorem ggX2_aim_X4_aimOf : GoodIn wsX2_aim wsX4_aimOf := goodIn_r _ [5] (by decide +kernel) (by decide +kernel)
set_option maxRecDepth 20000 in
theorem gX2_aim_X4_aimOf_n85 : GoodIn wsX2_aim (wsX4_aimOf) := ggX2_aim_X4_aimOf
theorem dX2_aim_0 : decode cX2_aim 0 = .ok (.aload_n 0, 1) := by decide +kernel
theorem dX2_aim_1 : decode cX2_aim 1 = .ok (.getfield 37, 3) := by decide +kernel
theorem dX2_aim_4 : decode cX2_aim 4 = .ok (.iload_n 1, 1) := by decide +kernel
theorem dX2_aim_5 : decode cX2_aim 5 = .ok (.iaload, 1) := by decide +kernel
theorem dX2_aim_6 : decode cX2_aim 6 = .ok (.aload_n 0, 1) := by decide +kernel
theorem dX2_aim_7 : decode cX2_aim 7 = .ok (.getfield 40, 3) := by decide +kernel
theorem dX2_aim_10 : decode cX2_aim 10 = .ok (.iload_n 1, 1) := by decide +kernel
theorem dX2_aim_11 : decode cX2_aim 11 = .ok (.iaload, 1) := by decide +kernel
theorem dX2_aim_12 : decode cX2_aim 12 = .ok (.invokestatic 85, 3) := by decide +kernel
theorem dX2_aim_15 : decode cX2_aim 15 = .ok (.ireturn, 1) := by decide +kernel
set_option maxRecDepth 20000 in
theorem ggX2_awayFromAim_X2_aim : GoodIn wsX2_awayFromAim wsX2_aim := goodIn_r _ [6, 7, 8, 9, 10, 11, 14, 15, 16, 17, 18, 19, 20, 21, 22, 23, 24, 25, 26] (by decide +kernel) (by decide +kernel)
set_option maxRecDepth 20000 in
theorem gX2_awayFromAim_X2_aim : GoodIn wsX2_awayFromAim (wsV RX2 89 RX2 yX2_aim wsX2_aim) := goodIn_app (goodIn_of _ (by decide +kernel)) ggX2_awayFromAim_X2_aim
set_option maxRecDepth 20000 in
theorem ggX2_awayFromAim_X4_ahead : GoodIn wsX2_awayFromAim wsX4_ahead := goodIn_r _ [13] (by decide +kernel) (by decide +kernel)
set_option maxRecDepth 20000 in
theorem gX2_awayFromAim_X4_ahead_n92 : GoodIn wsX2_awayFromAim (wsX4_ahead) := ggX2_awayFromAim_X4_ahead
theorem dX2_awayFromAim_0 : decode cX2_awayFromAim 0 = .ok (.aload_n 0, 1) := by decide +kernel
theorem dX2_awayFromAim_1 : decode cX2_awayFromAim 1 = .ok (.iload_n 1, 1) := by decide +kernel
theorem dX2_awayFromAim_2 : decode cX2_awayFromAim 2 = .ok (.invokevirtual 89, 3) := by decide +kernel
theorem dX2_awayFromAim_5 : decode cX2_awayFromAim 5 = .ok (.istore_n 2, 1) := by decide +kernel
theorem dX2_awayFromAim_6 : decode cX2_awayFromAim 6 = .ok (.iload_n 2, 1) := by decide +kernel
theorem dX2_awayFromAim_7 : decode cX2_awayFromAim 7 = .ok (.iconst (-1), 1) := by decide +kernel
theorem dX2_awayFromAim_8 : decode cX2_awayFromAim 8 = .ok (.if_icmp .ne 5, 3) := by decide +kernel
theorem dX2_awayFromAim_11 : decode cX2_awayFromAim 11 = .ok (.iconst (-1), 1) := by decide +kernel
theorem dX2_awayFromAim_12 : decode cX2_awayFromAim 12 = .ok (.ireturn, 1) := by decide +kernel
theorem dX2_awayFromAim_13 : decode cX2_awayFromAim 13 = .ok (.aload_n 0, 1) := by decide +kernel
theorem dX2_awayFromAim_14 : decode cX2_awayFromAim 14 = .ok (.getfield 9, 3) := by decide +kernel
theorem dX2_awayFromAim_17 : decode cX2_awayFromAim 17 = .ok (.iload_n 1, 1) := by decide +kernel
theorem dX2_awayFromAim_18 : decode cX2_awayFromAim 18 = .ok (.iaload, 1) := by decide +kernel
theorem dX2_awayFromAim_19 : decode cX2_awayFromAim 19 = .ok (.iload_n 2, 1) := by decide +kernel
theorem dX2_awayFromAim_20 : decode cX2_awayFromAim 20 = .ok (.invokestatic 92, 3) := by decide +kernel
theorem dX2_awayFromAim_23 : decode cX2_awayFromAim 23 = .ok (.istore_n 3, 1) := by decide +kernel
theorem dX2_awayFromAim_24 : decode cX2_awayFromAim 24 = .ok (.iload_n 3, 1) := by decide +kernel
theorem dX2_awayFromAim_25 : decode cX2_awayFromAim 25 = .ok (.iconst 4, 1) := by decide +kernel
theorem dX2_awayFromAim_26 : decode cX2_awayFromAim 26 = .ok (.if_icmp .gt 7, 3) := by decide +kernel
theorem dX2_awayFromAim_29 : decode cX2_awayFromAim 29 = .ok (.iload_n 3, 1) := by decide +kernel
theorem dX2_awayFromAim_30 : decode cX2_awayFromAim 30 = .ok (.goto 7, 3) := by decide +kernel
theorem dX2_awayFromAim_33 : decode cX2_awayFromAim 33 = .ok (.bipush 8, 2) := by decide +kernel
theorem dX2_awayFromAim_35 : decode cX2_awayFromAim 35 = .ok (.iload_n 3, 1) := by decide +kernel
theorem dX2_awayFromAim_36 : decode cX2_awayFromAim 36 = .ok (.isub, 1) := by decide +kernel
theorem dX2_awayFromAim_37 : decode cX2_awayFromAim 37 = .ok (.ireturn, 1) := by decide +kernel
set_option maxRecDepth 20000 in
theorem ggX2_wouldTurn_X2_directionAfterStep : GoodIn wsX2_wouldTurn wsX2_directionAfterStep := goodIn_r _ [6, 1, 7, 8, 9, 10, 11, 12, 13, 14, 15, 16, 17, 18, 19, 20, 21, 22, 23, 24, 25, 26, 27, 28] (by decide +kernel) (by decide +kernel)
set_option maxRecDepth 20000 in
theorem gX2_wouldTurn_X2_directionAfterStep : GoodIn wsX2_wouldTurn (wsV RX2 95 RX2 yX2_directionAfterStep wsX2_directionAfterStep) := goodIn_app (goodIn_of _ (by decide +kernel)) ggX2_wouldTurn_X2_directionAfterStep
theorem dX2_wouldTurn_0 : decode cX2_wouldTurn 0 = .ok (.aload_n 0, 1) := by decide +kernel
theorem dX2_wouldTurn_1 : decode cX2_wouldTurn 1 = .ok (.iload_n 1, 1) := by decide +kernel
theorem dX2_wouldTurn_2 : decode cX2_wouldTurn 2 = .ok (.invokevirtual 95, 3) := by decide +kernel
theorem dX2_wouldTurn_5 : decode cX2_wouldTurn 5 = .ok (.aload_n 0, 1) := by decide +kernel
theorem dX2_wouldTurn_6 : decode cX2_wouldTurn 6 = .ok (.getfield 9, 3) := by decide +kernel
theorem dX2_wouldTurn_9 : decode cX2_wouldTurn 9 = .ok (.iload_n 1, 1) := by decide +kernel
theorem dX2_wouldTurn_10 : decode cX2_wouldTurn 10 = .ok (.iaload, 1) := by decide +kernel
theorem dX2_wouldTurn_11 : decode cX2_wouldTurn 11 = .ok (.if_icmp .eq 7, 3) := by decide +kernel
theorem dX2_wouldTurn_14 : decode cX2_wouldTurn 14 = .ok (.iconst 1, 1) := by decide +kernel
theorem dX2_wouldTurn_15 : decode cX2_wouldTurn 15 = .ok (.goto 4, 3) := by decide +kernel
theorem dX2_wouldTurn_18 : decode cX2_wouldTurn 18 = .ok (.iconst 0, 1) := by decide +kernel
theorem dX2_wouldTurn_19 : decode cX2_wouldTurn 19 = .ok (.ireturn, 1) := by decide +kernel
set_option maxRecDepth 20000 in
theorem ggX2_directionAfterStep_X4_aimOf : GoodIn wsX2_directionAfterStep wsX4_aimOf := goodIn_r _ [8] (by decide +kernel) (by decide +kernel)
set_option maxRecDepth 20000 in
theorem gX2_directionAfterStep_X4_aimOf_n85 : GoodIn wsX2_directionAfterStep (wsX4_aimOf) := ggX2_directionAfterStep_X4_aimOf
set_option maxRecDepth 20000 in
theorem ggX2_directionAfterStep_X4_ahead : GoodIn wsX2_directionAfterStep wsX4_ahead := goodIn_r _ [10] (by decide +kernel) (by decide +kernel)
set_option maxRecDepth 20000 in
theorem gX2_directionAfterStep_X4_ahead_n92 : GoodIn wsX2_directionAfterStep (wsX4_ahead) := ggX2_directionAfterStep_X4_ahead
theorem dX2_directionAfterStep_0 : decode cX2_directionAfterStep 0 = .ok (.aload_n 0, 1) := by decide +kernel
theorem dX2_directionAfterStep_1 : decode cX2_directionAfterStep 1 = .ok (.getfield 9, 3) := by decide +kernel
theorem dX2_directionAfterStep_4 : decode cX2_directionAfterStep 4 = .ok (.iload_n 1, 1) := by decide +kernel
theorem dX2_directionAfterStep_5 : decode cX2_directionAfterStep 5 = .ok (.iaload, 1) := by decide +kernel
theorem dX2_directionAfterStep_6 : decode cX2_directionAfterStep 6 = .ok (.istore_n 2, 1) := by decide +kernel
theorem dX2_directionAfterStep_7 : decode cX2_directionAfterStep 7 = .ok (.aload_n 0, 1) := by decide +kernel
theorem dX2_directionAfterStep_8 : decode cX2_directionAfterStep 8 = .ok (.getfield 18, 3) := by decide +kernel
theorem dX2_directionAfterStep_11 : decode cX2_directionAfterStep 11 = .ok (.iload_n 1, 1) := by decide +kernel
theorem dX2_directionAfterStep_12 : decode cX2_directionAfterStep 12 = .ok (.baload, 1) := by decide +kernel
theorem dX2_directionAfterStep_13 : decode cX2_directionAfterStep 13 = .ok (.ifCond .eq 5, 3) := by decide +kernel
theorem dX2_directionAfterStep_16 : decode cX2_directionAfterStep 16 = .ok (.iload_n 2, 1) := by decide +kernel
theorem dX2_directionAfterStep_17 : decode cX2_directionAfterStep 17 = .ok (.ireturn, 1) := by decide +kernel
theorem dX2_directionAfterStep_18 : decode cX2_directionAfterStep 18 = .ok (.aload_n 0, 1) := by decide +kernel
theorem dX2_directionAfterStep_19 : decode cX2_directionAfterStep 19 = .ok (.getfield 37, 3) := by decide +kernel
theorem dX2_directionAfterStep_22 : decode cX2_directionAfterStep 22 = .ok (.iload_n 1, 1) := by decide +kernel
theorem dX2_directionAfterStep_23 : decode cX2_directionAfterStep 23 = .ok (.iaload, 1) := by decide +kernel
theorem dX2_directionAfterStep_24 : decode cX2_directionAfterStep 24 = .ok (.istore_n 3, 1) := by decide +kernel
theorem dX2_directionAfterStep_25 : decode cX2_directionAfterStep 25 = .ok (.aload_n 0, 1) := by decide +kernel
theorem dX2_directionAfterStep_26 : decode cX2_directionAfterStep 26 = .ok (.getfield 40, 3) := by decide +kernel
theorem dX2_directionAfterStep_29 : decode cX2_directionAfterStep 29 = .ok (.iload_n 1, 1) := by decide +kernel
theorem dX2_directionAfterStep_30 : decode cX2_directionAfterStep 30 = .ok (.iaload, 1) := by decide +kernel
theorem dX2_directionAfterStep_31 : decode cX2_directionAfterStep 31 = .ok (.istore 4, 2) := by decide +kernel
theorem dX2_directionAfterStep_33 : decode cX2_directionAfterStep 33 = .ok (.iload_n 3, 1) := by decide +kernel
theorem dX2_directionAfterStep_34 : decode cX2_directionAfterStep 34 = .ok (.iload 4, 2) := by decide +kernel
theorem dX2_directionAfterStep_36 : decode cX2_directionAfterStep 36 = .ok (.invokestatic 85, 3) := by decide +kernel
theorem dX2_directionAfterStep_39 : decode cX2_directionAfterStep 39 = .ok (.istore 5, 2) := by decide +kernel
theorem dX2_directionAfterStep_41 : decode cX2_directionAfterStep 41 = .ok (.iload_n 3, 1) := by decide +kernel
theorem dX2_directionAfterStep_42 : decode cX2_directionAfterStep 42 = .ok (.ifCond .ge 8, 3) := by decide +kernel
theorem dX2_directionAfterStep_45 : decode cX2_directionAfterStep 45 = .ok (.iload_n 3, 1) := by decide +kernel
theorem dX2_directionAfterStep_46 : decode cX2_directionAfterStep 46 = .ok (.ineg, 1) := by decide +kernel
theorem dX2_directionAfterStep_47 : decode cX2_directionAfterStep 47 = .ok (.goto 4, 3) := by decide +kernel
theorem dX2_directionAfterStep_50 : decode cX2_directionAfterStep 50 = .ok (.iload_n 3, 1) := by decide +kernel
theorem dX2_directionAfterStep_51 : decode cX2_directionAfterStep 51 = .ok (.iload 4, 2) := by decide +kernel
theorem dX2_directionAfterStep_53 : decode cX2_directionAfterStep 53 = .ok (.ifCond .ge 9, 3) := by decide +kernel
theorem dX2_directionAfterStep_56 : decode cX2_directionAfterStep 56 = .ok (.iload 4, 2) := by decide +kernel
theorem dX2_directionAfterStep_58 : decode cX2_directionAfterStep 58 = .ok (.ineg, 1) := by decide +kernel
theorem dX2_directionAfterStep_59 : decode cX2_directionAfterStep 59 = .ok (.goto 5, 3) := by decide +kernel
theorem dX2_directionAfterStep_62 : decode cX2_directionAfterStep 62 = .ok (.iload 4, 2) := by decide +kernel
theorem dX2_directionAfterStep_64 : decode cX2_directionAfterStep 64 = .ok (.iadd, 1) := by decide +kernel
theorem dX2_directionAfterStep_65 : decode cX2_directionAfterStep 65 = .ok (.istore 6, 2) := by decide +kernel
theorem dX2_directionAfterStep_67 : decode cX2_directionAfterStep 67 = .ok (.iload 5, 2) := by decide +kernel
theorem dX2_directionAfterStep_69 : decode cX2_directionAfterStep 69 = .ok (.iconst (-1), 1) := by decide +kernel
theorem dX2_directionAfterStep_70 : decode cX2_directionAfterStep 70 = .ok (.if_icmp .eq 20, 3) := by decide +kernel
theorem dX2_directionAfterStep_73 : decode cX2_directionAfterStep 73 = .ok (.iload 5, 2) := by decide +kernel
theorem dX2_directionAfterStep_75 : decode cX2_directionAfterStep 75 = .ok (.iload_n 2, 1) := by decide +kernel
theorem dX2_directionAfterStep_76 : decode cX2_directionAfterStep 76 = .ok (.if_icmp .eq 14, 3) := by decide +kernel
theorem dX2_directionAfterStep_79 : decode cX2_directionAfterStep 79 = .ok (.iload 6, 2) := by decide +kernel
theorem dX2_directionAfterStep_81 : decode cX2_directionAfterStep 81 = .ok (.aload_n 0, 1) := by decide +kernel
theorem dX2_directionAfterStep_82 : decode cX2_directionAfterStep 82 = .ok (.getfield 15, 3) := by decide +kernel
theorem dX2_directionAfterStep_85 : decode cX2_directionAfterStep 85 = .ok (.iload_n 1, 1) := by decide +kernel
theorem dX2_directionAfterStep_86 : decode cX2_directionAfterStep 86 = .ok (.iaload, 1) := by decide +kernel
theorem dX2_directionAfterStep_87 : decode cX2_directionAfterStep 87 = .ok (.if_icmp .gt 5, 3) := by decide +kernel
theorem dX2_directionAfterStep_90 : decode cX2_directionAfterStep 90 = .ok (.iload_n 2, 1) := by decide +kernel
theorem dX2_directionAfterStep_91 : decode cX2_directionAfterStep 91 = .ok (.ireturn, 1) := by decide +kernel
theorem dX2_directionAfterStep_92 : decode cX2_directionAfterStep 92 = .ok (.iload_n 2, 1) := by decide +kernel
theorem dX2_directionAfterStep_93 : decode cX2_directionAfterStep 93 = .ok (.iload 5, 2) := by decide +kernel
theorem dX2_directionAfterStep_95 : decode cX2_directionAfterStep 95 = .ok (.invokestatic 92, 3) := by decide +kernel
theorem dX2_directionAfterStep_98 : decode cX2_directionAfterStep 98 = .ok (.iconst 4, 1) := by decide +kernel
theorem dX2_directionAfterStep_99 : decode cX2_directionAfterStep 99 = .ok (.if_icmp .gt 7, 3) := by decide +kernel
theorem dX2_directionAfterStep_102 : decode cX2_directionAfterStep 102 = .ok (.iconst 1, 1) := by decide +kernel
theorem dX2_directionAfterStep_103 : decode cX2_directionAfterStep 103 = .ok (.goto 4, 3) := by decide +kernel
theorem dX2_directionAfterStep_106 : decode cX2_directionAfterStep 106 = .ok (.iconst (-1), 1) := by decide +kernel
theorem dX2_directionAfterStep_107 : decode cX2_directionAfterStep 107 = .ok (.istore 7, 2) := by decide +kernel
theorem dX2_directionAfterStep_109 : decode cX2_directionAfterStep 109 = .ok (.iload_n 2, 1) := by decide +kernel
theorem dX2_directionAfterStep_110 : decode cX2_directionAfterStep 110 = .ok (.iload 7, 2) := by decide +kernel
theorem dX2_directionAfterStep_112 : decode cX2_directionAfterStep 112 = .ok (.iadd, 1) := by decide +kernel
theorem dX2_directionAfterStep_113 : decode cX2_directionAfterStep 113 = .ok (.bipush 7, 2) := by decide +kernel
theorem dX2_directionAfterStep_115 : decode cX2_directionAfterStep 115 = .ok (.iand, 1) := by decide +kernel
theorem dX2_directionAfterStep_116 : decode cX2_directionAfterStep 116 = .ok (.ireturn, 1) := by decide +kernel
set_option maxRecDepth 20000 in
theorem ggX2_letGoBy_X2_turnAll : GoodIn wsX2_letGoBy wsX2_turnAll := goodIn_r _ [6, 7, 8, 9, 10, 5, 11, 12, 13, 14, 15, 16, 17, 18, 19, 20, 21, 22, 23, 24, 25, 26, 27, 28, 29, 30, 31, 32, 33, 34, 35, 36, 37, 38, 39, 40, 41, 42, 43, 44, 45, 46, 47, 48, 49, 50, 51, 52, 53, 54] (by decide +kernel) (by decide +kernel)
set_option maxRecDepth 20000 in
theorem gX2_letGoBy_X2_turnAll : GoodIn wsX2_letGoBy (wsV RX2 98 RX2 yX2_turnAll wsX2_turnAll) := goodIn_app (goodIn_of _ (by decide +kernel)) ggX2_letGoBy_X2_turnAll
theorem dX2_letGoBy_0 : decode cX2_letGoBy 0 = .ok (.iconst 0, 1) := by decide +kernel
theorem dX2_letGoBy_1 : decode cX2_letGoBy 1 = .ok (.istore_n 2, 1) := by decide +kernel
theorem dX2_letGoBy_2 : decode cX2_letGoBy 2 = .ok (.iconst 0, 1) := by decide +kernel
theorem dX2_letGoBy_3 : decode cX2_letGoBy 3 = .ok (.istore_n 3, 1) := by decide +kernel
theorem dX2_letGoBy_4 : decode cX2_letGoBy 4 = .ok (.iload_n 3, 1) := by decide +kernel
theorem dX2_letGoBy_5 : decode cX2_letGoBy 5 = .ok (.iload_n 1, 1) := by decide +kernel
theorem dX2_letGoBy_6 : decode cX2_letGoBy 6 = .ok (.if_icmp .ge 16, 3) := by decide +kernel
theorem dX2_letGoBy_9 : decode cX2_letGoBy 9 = .ok (.iload_n 2, 1) := by decide +kernel
theorem dX2_letGoBy_10 : decode cX2_letGoBy 10 = .ok (.aload_n 0, 1) := by decide +kernel
theorem dX2_letGoBy_11 : decode cX2_letGoBy 11 = .ok (.invokevirtual 98, 3) := by decide +kernel
theorem dX2_letGoBy_14 : decode cX2_letGoBy 14 = .ok (.iadd, 1) := by decide +kernel
theorem dX2_letGoBy_15 : decode cX2_letGoBy 15 = .ok (.istore_n 2, 1) := by decide +kernel
theorem dX2_letGoBy_16 : decode cX2_letGoBy 16 = .ok (.iinc 3 1, 3) := by decide +kernel
theorem dX2_letGoBy_19 : decode cX2_letGoBy 19 = .ok (.goto (-15), 3) := by decide +kernel
theorem dX2_letGoBy_22 : decode cX2_letGoBy 22 = .ok (.aload_n 0, 1) := by decide +kernel
theorem dX2_letGoBy_23 : decode cX2_letGoBy 23 = .ok (.dup, 1) := by decide +kernel
theorem dX2_letGoBy_24 : decode cX2_letGoBy 24 = .ok (.getfield 53, 3) := by decide +kernel
theorem dX2_letGoBy_27 : decode cX2_letGoBy 27 = .ok (.iload_n 1, 1) := by decide +kernel
theorem dX2_letGoBy_28 : decode cX2_letGoBy 28 = .ok (.iadd, 1) := by decide +kernel
theorem dX2_letGoBy_29 : decode cX2_letGoBy 29 = .ok (.putfield 53, 3) := by decide +kernel
theorem dX2_letGoBy_32 : decode cX2_letGoBy 32 = .ok (.iload_n 2, 1) := by decide +kernel
theorem dX2_letGoBy_33 : decode cX2_letGoBy 33 = .ok (.ireturn, 1) := by decide +kernel
set_option maxRecDepth 20000 in
theorem ggX2_turnAll_X2_directionAfterStep : GoodIn wsX2_turnAll wsX2_directionAfterStep := goodIn_r _ [6, 1, 7, 8, 9, 10, 11, 12, 13, 14, 15, 37, 38, 39, 40, 41, 42, 43, 44, 45, 46, 47, 48, 49] (by decide +kernel) (by decide +kernel)
set_option maxRecDepth 20000 in
theorem gX2_turnAll_X2_directionAfterStep : GoodIn wsX2_turnAll (wsV RX2 95 RX2 yX2_directionAfterStep wsX2_directionAfterStep) := goodIn_app (goodIn_of _ (by decide +kernel)) ggX2_turnAll_X2_directionAfterStep
set_option maxRecDepth 20000 in
theorem ggX2_turnAll_X2_measureField : GoodIn wsX2_turnAll wsX2_measureField := goodIn_r _ [19, 8, 20, 9, 21, 22, 23, 24, 5, 25, 26, 1, 27, 12, 28, 29, 30, 31, 32, 33, 34, 35, 36, 37, 38, 39, 40, 41, 42, 43, 44, 45, 46, 47, 48, 49] (by decide +kernel) (by decide +kernel)
set_option maxRecDepth 20000 in
theorem gX2_turnAll_X2_measureField : GoodIn wsX2_turnAll (wsV RX2 71 RX2 yX2_measureField wsX2_measureField) := goodIn_app (goodIn_of _ (by decide +kernel)) ggX2_turnAll_X2_measureField
theorem dX2_turnAll_0 : decode cX2_turnAll 0 = .ok (.iconst 0, 1) := by decide +kernel
theorem dX2_turnAll_1 : decode cX2_turnAll 1 = .ok (.istore_n 1, 1) := by decide +kernel
theorem dX2_turnAll_2 : decode cX2_turnAll 2 = .ok (.iconst 0, 1) := by decide +kernel
theorem dX2_turnAll_3 : decode cX2_turnAll 3 = .ok (.istore_n 2, 1) := by decide +kernel
theorem dX2_turnAll_4 : decode cX2_turnAll 4 = .ok (.iload_n 2, 1) := by decide +kernel
theorem dX2_turnAll_5 : decode cX2_turnAll 5 = .ok (.bipush 36, 2) := by decide +kernel
theorem dX2_turnAll_7 : decode cX2_turnAll 7 = .ok (.if_icmp .ge 35, 3) := by decide +kernel
theorem dX2_turnAll_10 : decode cX2_turnAll 10 = .ok (.aload_n 0, 1) := by decide +kernel
theorem dX2_turnAll_11 : decode cX2_turnAll 11 = .ok (.iload_n 2, 1) := by decide +kernel
theorem dX2_turnAll_12 : decode cX2_turnAll 12 = .ok (.invokevirtual 95, 3) := by decide +kernel
theorem dX2_turnAll_15 : decode cX2_turnAll 15 = .ok (.istore_n 3, 1) := by decide +kernel
theorem dX2_turnAll_16 : decode cX2_turnAll 16 = .ok (.iload_n 3, 1) := by decide +kernel
theorem dX2_turnAll_17 : decode cX2_turnAll 17 = .ok (.aload_n 0, 1) := by decide +kernel
theorem dX2_turnAll_18 : decode cX2_turnAll 18 = .ok (.getfield 9, 3) := by decide +kernel
theorem dX2_turnAll_21 : decode cX2_turnAll 21 = .ok (.iload_n 2, 1) := by decide +kernel
theorem dX2_turnAll_22 : decode cX2_turnAll 22 = .ok (.iaload, 1) := by decide +kernel
theorem dX2_turnAll_23 : decode cX2_turnAll 23 = .ok (.if_icmp .eq 13, 3) := by decide +kernel
theorem dX2_turnAll_26 : decode cX2_turnAll 26 = .ok (.aload_n 0, 1) := by decide +kernel
theorem dX2_turnAll_27 : decode cX2_turnAll 27 = .ok (.getfield 9, 3) := by decide +kernel
theorem dX2_turnAll_30 : decode cX2_turnAll 30 = .ok (.iload_n 2, 1) := by decide +kernel
theorem dX2_turnAll_31 : decode cX2_turnAll 31 = .ok (.iload_n 3, 1) := by decide +kernel
theorem dX2_turnAll_32 : decode cX2_turnAll 32 = .ok (.iastore, 1) := by decide +kernel
theorem dX2_turnAll_33 : decode cX2_turnAll 33 = .ok (.iinc 1 1, 3) := by decide +kernel
theorem dX2_turnAll_36 : decode cX2_turnAll 36 = .ok (.iinc 2 1, 3) := by decide +kernel
theorem dX2_turnAll_39 : decode cX2_turnAll 39 = .ok (.goto (-35), 3) := by decide +kernel
theorem dX2_turnAll_42 : decode cX2_turnAll 42 = .ok (.aload_n 0, 1) := by decide +kernel
theorem dX2_turnAll_43 : decode cX2_turnAll 43 = .ok (.invokevirtual 71, 3) := by decide +kernel
theorem dX2_turnAll_46 : decode cX2_turnAll 46 = .ok (.iload_n 1, 1) := by decide +kernel
theorem dX2_turnAll_47 : decode cX2_turnAll 47 = .ok (.ireturn, 1) := by decide +kernel
theorem dX2_hasBar_0 : decode cX2_hasBar 0 = .ok (.aload_n 0, 1) := by decide +kernel
theorem dX2_hasBar_1 : decode cX2_hasBar 1 = .ok (.getfield 25, 3) := by decide +kernel
theorem dX2_hasBar_4 : decode cX2_hasBar 4 = .ok (.iload_n 1, 1) := by decide +kernel
theorem dX2_hasBar_5 : decode cX2_hasBar 5 = .ok (.iaload, 1) := by decide +kernel
theorem dX2_hasBar_6 : decode cX2_hasBar 6 = .ok (.ifCond .le 7, 3) := by decide +kernel
theorem dX2_hasBar_9 : decode cX2_hasBar 9 = .ok (.iconst 1, 1) := by decide +kernel
theorem dX2_hasBar_10 : decode cX2_hasBar 10 = .ok (.goto 4, 3) := by decide +kernel
theorem dX2_hasBar_13 : decode cX2_hasBar 13 = .ok (.iconst 0, 1) := by decide +kernel
theorem dX2_hasBar_14 : decode cX2_hasBar 14 = .ok (.ireturn, 1) := by decide +kernel
theorem dX2_layBar_0 : decode cX2_layBar 0 = .ok (.aload_n 0, 1) := by decide +kernel
theorem dX2_layBar_1 : decode cX2_layBar 1 = .ok (.getfield 22, 3) := by decide +kernel
theorem dX2_layBar_4 : decode cX2_layBar 4 = .ok (.iload_n 1, 1) := by decide +kernel
theorem dX2_layBar_5 : decode cX2_layBar 5 = .ok (.iload_n 2, 1) := by decide +kernel
theorem dX2_layBar_6 : decode cX2_layBar 6 = .ok (.iastore, 1) := by decide +kernel
theorem dX2_layBar_7 : decode cX2_layBar 7 = .ok (.aload_n 0, 1) := by decide +kernel
theorem dX2_layBar_8 : decode cX2_layBar 8 = .ok (.getfield 25, 3) := by decide +kernel
theorem dX2_layBar_11 : decode cX2_layBar 11 = .ok (.iload_n 1, 1) := by decide +kernel
theorem dX2_layBar_12 : decode cX2_layBar 12 = .ok (.iload_n 3, 1) := by decide +kernel
theorem dX2_layBar_13 : decode cX2_layBar 13 = .ok (.iastore, 1) := by decide +kernel
theorem dX2_layBar_14 : decode cX2_layBar 14 = .ok (.return_, 1) := by decide +kernel
set_option maxRecDepth 20000 in
theorem ggX2_takeBar_X2_layBar : GoodIn wsX2_takeBar wsX2_layBar := goodIn_r _ [5, 6, 7, 8, 9, 10, 11, 12, 13, 14, 15, 16, 17, 18, 19, 20] (by decide +kernel) (by decide +kernel)
set_option maxRecDepth 20000 in
theorem gX2_takeBar_X2_layBar : GoodIn wsX2_takeBar (wsV RX2 102 RX2 yX2_layBar wsX2_layBar) := goodIn_app (goodIn_of _ (by decide +kernel)) ggX2_takeBar_X2_layBar
theorem dX2_takeBar_0 : decode cX2_takeBar 0 = .ok (.aload_n 0, 1) := by decide +kernel
theorem dX2_takeBar_1 : decode cX2_takeBar 1 = .ok (.iload_n 1, 1) := by decide +kernel
theorem dX2_takeBar_2 : decode cX2_takeBar 2 = .ok (.iconst 0, 1) := by decide +kernel
theorem dX2_takeBar_3 : decode cX2_takeBar 3 = .ok (.iconst 0, 1) := by decide +kernel
theorem dX2_takeBar_4 : decode cX2_takeBar 4 = .ok (.invokevirtual 102, 3) := by decide +kernel
theorem dX2_takeBar_7 : decode cX2_takeBar 7 = .ok (.return_, 1) := by decide +kernel
set_option maxRecDepth 20000 in
theorem ggX2_barCount_X2_hasBar : GoodIn wsX2_barCount wsX2_hasBar := goodIn_r _ [5, 6, 7, 8, 9, 10, 11, 12, 13, 14, 15, 16, 17, 18, 19] (by decide +kernel) (by decide +kernel)
set_option maxRecDepth 20000 in
theorem gX2_barCount_X2_hasBar : GoodIn wsX2_barCount (wsV RX2 63 RX2 yX2_hasBar wsX2_hasBar) := goodIn_app (goodIn_of _ (by decide +kernel)) ggX2_barCount_X2_hasBar
theorem dX2_barCount_0 : decode cX2_barCount 0 = .ok (.iconst 0, 1) := by decide +kernel
theorem dX2_barCount_1 : decode cX2_barCount 1 = .ok (.istore_n 1, 1) := by decide +kernel
theorem dX2_barCount_2 : decode cX2_barCount 2 = .ok (.iconst 0, 1) := by decide +kernel
theorem dX2_barCount_3 : decode cX2_barCount 3 = .ok (.istore_n 2, 1) := by decide +kernel
theorem dX2_barCount_4 : decode cX2_barCount 4 = .ok (.iload_n 2, 1) := by decide +kernel
theorem dX2_barCount_5 : decode cX2_barCount 5 = .ok (.bipush 36, 2) := by decide +kernel
theorem dX2_barCount_7 : decode cX2_barCount 7 = .ok (.if_icmp .ge 20, 3) := by decide +kernel
theorem dX2_barCount_10 : decode cX2_barCount 10 = .ok (.aload_n 0, 1) := by decide +kernel
theorem dX2_barCount_11 : decode cX2_barCount 11 = .ok (.iload_n 2, 1) := by decide +kernel
theorem dX2_barCount_12 : decode cX2_barCount 12 = .ok (.invokevirtual 63, 3) := by decide +kernel
theorem dX2_barCount_15 : decode cX2_barCount 15 = .ok (.ifCond .eq 6, 3) := by decide +kernel
theorem dX2_barCount_18 : decode cX2_barCount 18 = .ok (.iinc 1 1, 3) := by decide +kernel
theorem dX2_barCount_21 : decode cX2_barCount 21 = .ok (.iinc 2 1, 3) := by decide +kernel
theorem dX2_barCount_24 : decode cX2_barCount 24 = .ok (.goto (-20), 3) := by decide +kernel
theorem dX2_barCount_27 : decode cX2_barCount 27 = .ok (.iload_n 1, 1) := by decide +kernel
theorem dX2_barCount_28 : decode cX2_barCount 28 = .ok (.ireturn, 1) := by decide +kernel
set_option maxRecDepth 20000 in
theorem ggX2_cellOfBar_X2_hasBar : GoodIn wsX2_cellOfBar wsX2_hasBar := goodIn_r _ [5, 6, 7, 8, 9, 10, 11, 12, 13, 14, 15, 16, 17, 18, 19] (by decide +kernel) (by decide +kernel)
set_option maxRecDepth 20000 in
theorem gX2_cellOfBar_X2_hasBar : GoodIn wsX2_cellOfBar (wsV RX2 63 RX2 yX2_hasBar wsX2_hasBar) := goodIn_app (goodIn_of _ (by decide +kernel)) ggX2_cellOfBar_X2_hasBar
theorem dX2_cellOfBar_0 : decode cX2_cellOfBar 0 = .ok (.iconst 0, 1) := by decide +kernel
theorem dX2_cellOfBar_1 : decode cX2_cellOfBar 1 = .ok (.istore_n 2, 1) := by decide +kernel
theorem dX2_cellOfBar_2 : decode cX2_cellOfBar 2 = .ok (.iconst 0, 1) := by decide +kernel
theorem dX2_cellOfBar_3 : decode cX2_cellOfBar 3 = .ok (.istore_n 3, 1) := by decide +kernel
theorem dX2_cellOfBar_4 : decode cX2_cellOfBar 4 = .ok (.iload_n 3, 1) := by decide +kernel
theorem dX2_cellOfBar_5 : decode cX2_cellOfBar 5 = .ok (.bipush 36, 2) := by decide +kernel
theorem dX2_cellOfBar_7 : decode cX2_cellOfBar 7 = .ok (.if_icmp .ge 27, 3) := by decide +kernel
theorem dX2_cellOfBar_10 : decode cX2_cellOfBar 10 = .ok (.aload_n 0, 1) := by decide +kernel
theorem dX2_cellOfBar_11 : decode cX2_cellOfBar 11 = .ok (.iload_n 3, 1) := by decide +kernel
theorem dX2_cellOfBar_12 : decode cX2_cellOfBar 12 = .ok (.invokevirtual 63, 3) := by decide +kernel
theorem dX2_cellOfBar_15 : decode cX2_cellOfBar 15 = .ok (.ifCond .eq 13, 3) := by decide +kernel
theorem dX2_cellOfBar_18 : decode cX2_cellOfBar 18 = .ok (.iload_n 2, 1) := by decide +kernel
theorem dX2_cellOfBar_19 : decode cX2_cellOfBar 19 = .ok (.iload_n 1, 1) := by decide +kernel
theorem dX2_cellOfBar_20 : decode cX2_cellOfBar 20 = .ok (.if_icmp .ne 5, 3) := by decide +kernel
theorem dX2_cellOfBar_23 : decode cX2_cellOfBar 23 = .ok (.iload_n 3, 1) := by decide +kernel
theorem dX2_cellOfBar_24 : decode cX2_cellOfBar 24 = .ok (.ireturn, 1) := by decide +kernel
theorem dX2_cellOfBar_25 : decode cX2_cellOfBar 25 = .ok (.iinc 2 1, 3) := by decide +kernel
theorem dX2_cellOfBar_28 : decode cX2_cellOfBar 28 = .ok (.iinc 3 1, 3) := by decide +kernel
theorem dX2_cellOfBar_31 : decode cX2_cellOfBar 31 = .ok (.goto (-27), 3) := by decide +kernel
theorem dX2_cellOfBar_34 : decode cX2_cellOfBar 34 = .ok (.iconst (-1), 1) := by decide +kernel
theorem dX2_cellOfBar_35 : decode cX2_cellOfBar 35 = .ok (.ireturn, 1) := by decide +kernel
theorem dX2_heldCount_0 : decode cX2_heldCount 0 = .ok (.iconst 0, 1) := by decide +kernel
theorem dX2_heldCount_1 : decode cX2_heldCount 1 = .ok (.istore_n 1, 1) := by decide +kernel
theorem dX2_heldCount_2 : decode cX2_heldCount 2 = .ok (.iconst 0, 1) := by decide +kernel
theorem dX2_heldCount_3 : decode cX2_heldCount 3 = .ok (.istore_n 2, 1) := by decide +kernel
theorem dX2_heldCount_4 : decode cX2_heldCount 4 = .ok (.iload_n 2, 1) := by decide +kernel
theorem dX2_heldCount_5 : decode cX2_heldCount 5 = .ok (.bipush 36, 2) := by decide +kernel
theorem dX2_heldCount_7 : decode cX2_heldCount 7 = .ok (.if_icmp .ge 21, 3) := by decide +kernel
theorem dX2_heldCount_10 : decode cX2_heldCount 10 = .ok (.aload_n 0, 1) := by decide +kernel
theorem dX2_heldCount_11 : decode cX2_heldCount 11 = .ok (.getfield 18, 3) := by decide +kernel
theorem dX2_heldCount_14 : decode cX2_heldCount 14 = .ok (.iload_n 2, 1) := by decide +kernel
theorem dX2_heldCount_15 : decode cX2_heldCount 15 = .ok (.baload, 1) := by decide +kernel
theorem dX2_heldCount_16 : decode cX2_heldCount 16 = .ok (.ifCond .eq 6, 3) := by decide +kernel
theorem dX2_heldCount_19 : decode cX2_heldCount 19 = .ok (.iinc 1 1, 3) := by decide +kernel
theorem dX2_heldCount_22 : decode cX2_heldCount 22 = .ok (.iinc 2 1, 3) := by decide +kernel
theorem dX2_heldCount_25 : decode cX2_heldCount 25 = .ok (.goto (-21), 3) := by decide +kernel
theorem dX2_heldCount_28 : decode cX2_heldCount 28 = .ok (.iload_n 1, 1) := by decide +kernel
theorem dX2_heldCount_29 : decode cX2_heldCount 29 = .ok (.ireturn, 1) := by decide +kernel
set_option maxRecDepth 20000 in
theorem ggX2_turningCount_X2_wouldTurn : GoodIn wsX2_turningCount wsX2_wouldTurn := goodIn_r _ [5, 6, 7, 8, 9, 4, 10, 11, 12, 13, 14, 15, 16, 17, 18, 19, 20, 21, 22, 23, 24, 25, 26, 27, 28, 29, 30, 31, 32] (by decide +kernel) (by decide +kernel)
set_option maxRecDepth 20000 in
theorem gX2_turningCount_X2_wouldTurn : GoodIn wsX2_turningCount (wsV RX2 108 RX2 yX2_wouldTurn wsX2_wouldTurn) := goodIn_app (goodIn_of _ (by decide +kernel)) ggX2_turningCount_X2_wouldTurn
theorem dX2_turningCount_0 : decode cX2_turningCount 0 = .ok (.iconst 0, 1) := by decide +kernel
theorem dX2_turningCount_1 : decode cX2_turningCount 1 = .ok (.istore_n 1, 1) := by decide +kernel
theorem dX2_turningCount_2 : decode cX2_turningCount 2 = .ok (.iconst 0, 1) := by decide +kernel
theorem dX2_turningCount_3 : decode cX2_turningCount 3 = .ok (.istore_n 2, 1) := by decide +kernel
theorem dX2_turningCount_4 : decode cX2_turningCount 4 = .ok (.iload_n 2, 1) := by decide +kernel
theorem dX2_turningCount_5 : decode cX2_turningCount 5 = .ok (.bipush 36, 2) := by decide +kernel
theorem dX2_turningCount_7 : decode cX2_turningCount 7 = .ok (.if_icmp .ge 20, 3) := by decide +kernel
theorem dX2_turningCount_10 : decode cX2_turningCount 10 = .ok (.aload_n 0, 1) := by decide +kernel
theorem dX2_turningCount_11 : decode cX2_turningCount 11 = .ok (.iload_n 2, 1) := by decide +kernel
theorem dX2_turningCount_12 : decode cX2_turningCount 12 = .ok (.invokevirtual 108, 3) := by decide +kernel
theorem dX2_turningCount_15 : decode cX2_turningCount 15 = .ok (.ifCond .eq 6, 3) := by decide +kernel
theorem dX2_turningCount_18 : decode cX2_turningCount 18 = .ok (.iinc 1 1, 3) := by decide +kernel
theorem dX2_turningCount_21 : decode cX2_turningCount 21 = .ok (.iinc 2 1, 3) := by decide +kernel
theorem dX2_turningCount_24 : decode cX2_turningCount 24 = .ok (.goto (-20), 3) := by decide +kernel
theorem dX2_turningCount_27 : decode cX2_turningCount 27 = .ok (.iload_n 1, 1) := by decide +kernel
theorem dX2_turningCount_28 : decode cX2_turningCount 28 = .ok (.ireturn, 1) := by decide +kernel
set_option maxRecDepth 20000 in
theorem ggX2_aimedCount_X2_aim : GoodIn wsX2_aimedCount wsX2_aim := goodIn_r _ [5, 6, 7, 8, 9, 10, 11, 12, 13, 14, 15, 16, 17, 18, 19, 20, 21, 22, 23] (by decide +kernel) (by decide +kernel)
set_option maxRecDepth 20000 in
theorem gX2_aimedCount_X2_aim : GoodIn wsX2_aimedCount (wsV RX2 89 RX2 yX2_aim wsX2_aim) := goodIn_app (goodIn_of _ (by decide +kernel)) ggX2_aimedCount_X2_aim
theorem dX2_aimedCount_0 : decode cX2_aimedCount 0 = .ok (.iconst 0, 1) := by decide +kernel
theorem dX2_aimedCount_1 : decode cX2_aimedCount 1 = .ok (.istore_n 1, 1) := by decide +kernel
theorem dX2_aimedCount_2 : decode cX2_aimedCount 2 = .ok (.iconst 0, 1) := by decide +kernel
theorem dX2_aimedCount_3 : decode cX2_aimedCount 3 = .ok (.istore_n 2, 1) := by decide +kernel
theorem dX2_aimedCount_4 : decode cX2_aimedCount 4 = .ok (.iload_n 2, 1) := by decide +kernel
theorem dX2_aimedCount_5 : decode cX2_aimedCount 5 = .ok (.bipush 36, 2) := by decide +kernel
theorem dX2_aimedCount_7 : decode cX2_aimedCount 7 = .ok (.if_icmp .ge 21, 3) := by decide +kernel
theorem dX2_aimedCount_10 : decode cX2_aimedCount 10 = .ok (.aload_n 0, 1) := by decide +kernel
theorem dX2_aimedCount_11 : decode cX2_aimedCount 11 = .ok (.iload_n 2, 1) := by decide +kernel
theorem dX2_aimedCount_12 : decode cX2_aimedCount 12 = .ok (.invokevirtual 89, 3) := by decide +kernel
theorem dX2_aimedCount_15 : decode cX2_aimedCount 15 = .ok (.iconst (-1), 1) := by decide +kernel
theorem dX2_aimedCount_16 : decode cX2_aimedCount 16 = .ok (.if_icmp .eq 6, 3) := by decide +kernel
theorem dX2_aimedCount_19 : decode cX2_aimedCount 19 = .ok (.iinc 1 1, 3) := by decide +kernel
theorem dX2_aimedCount_22 : decode cX2_aimedCount 22 = .ok (.iinc 2 1, 3) := by decide +kernel
theorem dX2_aimedCount_25 : decode cX2_aimedCount 25 = .ok (.goto (-21), 3) := by decide +kernel
theorem dX2_aimedCount_28 : decode cX2_aimedCount 28 = .ok (.iload_n 1, 1) := by decide +kernel
theorem dX2_aimedCount_29 : decode cX2_aimedCount 29 = .ok (.ireturn, 1) := by decide +kernel
set_option maxRecDepth 20000 in
theorem ggX2_obeyingCount_X2_aim : GoodIn wsX2_obeyingCount wsX2_aim := goodIn_r _ [6, 7, 8, 9, 10, 11, 12, 13, 14, 15, 16, 17, 18, 19, 20, 21, 22, 23, 24] (by decide +kernel) (by decide +kernel)
set_option maxRecDepth 20000 in
theorem gX2_obeyingCount_X2_aim : GoodIn wsX2_obeyingCount (wsV RX2 89 RX2 yX2_aim wsX2_aim) := goodIn_app (goodIn_of _ (by decide +kernel)) ggX2_obeyingCount_X2_aim
theorem dX2_obeyingCount_0 : decode cX2_obeyingCount 0 = .ok (.iconst 0, 1) := by decide +kernel
theorem dX2_obeyingCount_1 : decode cX2_obeyingCount 1 = .ok (.istore_n 1, 1) := by decide +kernel
theorem dX2_obeyingCount_2 : decode cX2_obeyingCount 2 = .ok (.iconst 0, 1) := by decide +kernel
theorem dX2_obeyingCount_3 : decode cX2_obeyingCount 3 = .ok (.istore_n 2, 1) := by decide +kernel
theorem dX2_obeyingCount_4 : decode cX2_obeyingCount 4 = .ok (.iload_n 2, 1) := by decide +kernel
theorem dX2_obeyingCount_5 : decode cX2_obeyingCount 5 = .ok (.bipush 36, 2) := by decide +kernel
theorem dX2_obeyingCount_7 : decode cX2_obeyingCount 7 = .ok (.if_icmp .ge 26, 3) := by decide +kernel
theorem dX2_obeyingCount_10 : decode cX2_obeyingCount 10 = .ok (.aload_n 0, 1) := by decide +kernel
theorem dX2_obeyingCount_11 : decode cX2_obeyingCount 11 = .ok (.iload_n 2, 1) := by decide +kernel
theorem dX2_obeyingCount_12 : decode cX2_obeyingCount 12 = .ok (.invokevirtual 89, 3) := by decide +kernel
theorem dX2_obeyingCount_15 : decode cX2_obeyingCount 15 = .ok (.aload_n 0, 1) := by decide +kernel
theorem dX2_obeyingCount_16 : decode cX2_obeyingCount 16 = .ok (.getfield 9, 3) := by decide +kernel
theorem dX2_obeyingCount_19 : decode cX2_obeyingCount 19 = .ok (.iload_n 2, 1) := by decide +kernel
theorem dX2_obeyingCount_20 : decode cX2_obeyingCount 20 = .ok (.iaload, 1) := by decide +kernel
theorem dX2_obeyingCount_21 : decode cX2_obeyingCount 21 = .ok (.if_icmp .ne 6, 3) := by decide +kernel
theorem dX2_obeyingCount_24 : decode cX2_obeyingCount 24 = .ok (.iinc 1 1, 3) := by decide +kernel
theorem dX2_obeyingCount_27 : decode cX2_obeyingCount 27 = .ok (.iinc 2 1, 3) := by decide +kernel
theorem dX2_obeyingCount_30 : decode cX2_obeyingCount 30 = .ok (.goto (-26), 3) := by decide +kernel
theorem dX2_obeyingCount_33 : decode cX2_obeyingCount 33 = .ok (.iload_n 1, 1) := by decide +kernel
theorem dX2_obeyingCount_34 : decode cX2_obeyingCount 34 = .ok (.ireturn, 1) := by decide +kernel
set_option maxRecDepth 20000 in
theorem ggX2_awayTogether_X2_awayFromAim : GoodIn wsX2_awayTogether wsX2_awayFromAim := goodIn_r _ [5, 6, 7, 8, 9, 4, 10, 11, 12, 13, 14, 15, 16, 17, 18, 19, 20, 21, 22, 23, 24, 25, 26, 27, 28, 29, 30] (by decide +kernel) (by decide +kernel)
set_option maxRecDepth 20000 in
theorem gX2_awayTogether_X2_awayFromAim : GoodIn wsX2_awayTogether (wsV RX2 111 RX2 yX2_awayFromAim wsX2_awayFromAim) := goodIn_app (goodIn_of _ (by decide +kernel)) ggX2_awayTogether_X2_awayFromAim
theorem dX2_awayTogether_0 : decode cX2_awayTogether 0 = .ok (.iconst 0, 1) := by decide +kernel
theorem dX2_awayTogether_1 : decode cX2_awayTogether 1 = .ok (.istore_n 1, 1) := by decide +kernel
theorem dX2_awayTogether_2 : decode cX2_awayTogether 2 = .ok (.iconst 0, 1) := by decide +kernel
theorem dX2_awayTogether_3 : decode cX2_awayTogether 3 = .ok (.istore_n 2, 1) := by decide +kernel
theorem dX2_awayTogether_4 : decode cX2_awayTogether 4 = .ok (.iload_n 2, 1) := by decide +kernel
theorem dX2_awayTogether_5 : decode cX2_awayTogether 5 = .ok (.bipush 36, 2) := by decide +kernel
theorem dX2_awayTogether_7 : decode cX2_awayTogether 7 = .ok (.if_icmp .ge 24, 3) := by decide +kernel
theorem dX2_awayTogether_10 : decode cX2_awayTogether 10 = .ok (.aload_n 0, 1) := by decide +kernel
theorem dX2_awayTogether_11 : decode cX2_awayTogether 11 = .ok (.iload_n 2, 1) := by decide +kernel
theorem dX2_awayTogether_12 : decode cX2_awayTogether 12 = .ok (.invokevirtual 111, 3) := by decide +kernel
theorem dX2_awayTogether_15 : decode cX2_awayTogether 15 = .ok (.istore_n 3, 1) := by decide +kernel
theorem dX2_awayTogether_16 : decode cX2_awayTogether 16 = .ok (.iload_n 3, 1) := by decide +kernel
theorem dX2_awayTogether_17 : decode cX2_awayTogether 17 = .ok (.iconst (-1), 1) := by decide +kernel
theorem dX2_awayTogether_18 : decode cX2_awayTogether 18 = .ok (.if_icmp .eq 7, 3) := by decide +kernel
theorem dX2_awayTogether_21 : decode cX2_awayTogether 21 = .ok (.iload_n 1, 1) := by decide +kernel
theorem dX2_awayTogether_22 : decode cX2_awayTogether 22 = .ok (.iload_n 3, 1) := by decide +kernel
theorem dX2_awayTogether_23 : decode cX2_awayTogether 23 = .ok (.iadd, 1) := by decide +kernel
theorem dX2_awayTogether_24 : decode cX2_awayTogether 24 = .ok (.istore_n 1, 1) := by decide +kernel
theorem dX2_awayTogether_25 : decode cX2_awayTogether 25 = .ok (.iinc 2 1, 3) := by decide +kernel
theorem dX2_awayTogether_28 : decode cX2_awayTogether 28 = .ok (.goto (-24), 3) := by decide +kernel
theorem dX2_awayTogether_31 : decode cX2_awayTogether 31 = .ok (.iload_n 1, 1) := by decide +kernel
theorem dX2_awayTogether_32 : decode cX2_awayTogether 32 = .ok (.ireturn, 1) := by decide +kernel
theorem dX2_pointingCount_0 : decode cX2_pointingCount 0 = .ok (.iconst 0, 1) := by decide +kernel
theorem dX2_pointingCount_1 : decode cX2_pointingCount 1 = .ok (.istore_n 2, 1) := by decide +kernel
theorem dX2_pointingCount_2 : decode cX2_pointingCount 2 = .ok (.iconst 0, 1) := by decide +kernel
theorem dX2_pointingCount_3 : decode cX2_pointingCount 3 = .ok (.istore_n 3, 1) := by decide +kernel
theorem dX2_pointingCount_4 : decode cX2_pointingCount 4 = .ok (.iload_n 3, 1) := by decide +kernel
theorem dX2_pointingCount_5 : decode cX2_pointingCount 5 = .ok (.bipush 36, 2) := by decide +kernel
theorem dX2_pointingCount_7 : decode cX2_pointingCount 7 = .ok (.if_icmp .ge 22, 3) := by decide +kernel
theorem dX2_pointingCount_10 : decode cX2_pointingCount 10 = .ok (.aload_n 0, 1) := by decide +kernel
theorem dX2_pointingCount_11 : decode cX2_pointingCount 11 = .ok (.getfield 9, 3) := by decide +kernel
theorem dX2_pointingCount_14 : decode cX2_pointingCount 14 = .ok (.iload_n 3, 1) := by decide +kernel
theorem dX2_pointingCount_15 : decode cX2_pointingCount 15 = .ok (.iaload, 1) := by decide +kernel
theorem dX2_pointingCount_16 : decode cX2_pointingCount 16 = .ok (.iload_n 1, 1) := by decide +kernel
theorem dX2_pointingCount_17 : decode cX2_pointingCount 17 = .ok (.if_icmp .ne 6, 3) := by decide +kernel
theorem dX2_pointingCount_20 : decode cX2_pointingCount 20 = .ok (.iinc 2 1, 3) := by decide +kernel
theorem dX2_pointingCount_23 : decode cX2_pointingCount 23 = .ok (.iinc 3 1, 3) := by decide +kernel
theorem dX2_pointingCount_26 : decode cX2_pointingCount 26 = .ok (.goto (-22), 3) := by decide +kernel
theorem dX2_pointingCount_29 : decode cX2_pointingCount 29 = .ok (.iload_n 2, 1) := by decide +kernel
theorem dX2_pointingCount_30 : decode cX2_pointingCount 30 = .ok (.ireturn, 1) := by decide +kernel
