theorem dX2_turningCount_28 : decode cX2_turningCount 28 = .ok (.ireturn, 1) := by decide +kernel
set_option maxRecDepth 20000 in
theorem ggX2_aimedCount_X2_aim : GoodIn wsX2_aimedCount wsX2_aim := goodIn_r _ [5, 6, 7, 8, 9, 10, 11, 12, 13, 14, 15, 16, 17, 18, 19, 20, 21, 22, 23] (by decide +kernel) (by decide +kernel)
set_option maxRecDepth 20000 in
theorem gX2_aimedCount_X2_aim : GoodIn wsX2_aimedCount (wsV RX2 89 RX2 yX2_aim wsX2_aim) := goodIn_app (goodIn_of _ (by decide +kernel)) ggX2_aimedCount_X2_aim
theorem dX2_aimedCount_0 : decode cX2_aimedCount 0 = .ok (.iconst 0, 1) := by decide +kernel
theorem dX2_aimedCount_1 : decode cX2_aimedCount 1 = .ok (.istore_n 1, 1) := by decide +kernel
theorem dX2_aimedCount_2 : decode cX2_aimedCount 2 = .ok (.iconst 0, 1) := by decide +kernel
theorem dX2_aimedCount_3 : decode cX2_aimedCount 3 = .ok (.istore_n 2, 1) := by decide +kernel
theorem dX2_aimedCount_4 : decode cX2_aimedCount 4 = .ok (.iload_n 2, 1) := by decide +kernel
theorem dX2_aimedCount_5 : decode cX2_aimedCount 5 = .ok (.bipush 36, 2) := by decide +kernel
theorem dX2_aimedCount_7 : decode cX2_aimedCount 7 = .ok (.if_icmp .ge 21, 3) := by decide +kernel
theorem dX2_aimedCount_10 : decode cX2_aimedCount 10 = .ok (.aload_n 0, 1) := by decide +kernel
theorem dX2_aimedCount_11 : decode cX2_aimedCount 11 = .ok (.iload_n 2, 1) := by decide +kernel
theorem dX2_aimedCount_12 : decode cX2_aimedCount 12 = .ok (.invokevirtual 89, 3) := by decide +kernel
theorem dX2_aimedCount_15 : decode cX2_aimedCount 15 = .ok (.iconst (-1), 1) := by decide +kernel
theorem dX2_aimedCount_16 : decode cX2_aimedCount 16 = .ok (.if_icmp .eq 6, 3) := by decide +kernel
theorem dX2_aimedCount_19 : decode cX2_aimedCount 19 = .ok (.iinc 1 1, 3) := by decide +kernel
theorem dX2_aimedCount_22 : decode cX2_aimedCount 22 = .ok (.iinc 2 1, 3) := by decide +kernel
theorem dX2_aimedCount_25 : decode cX2_aimedCount 25 = .ok (.goto (-21), 3) := by decide +kernel
theorem dX2_aimedCount_28 : decode cX2_aimedCount 28 = .ok (.iload_n 1, 1) := by decide +kernel
theorem dX2_aimedCount_29 : decode cX2_aimedCount 29 = .ok (.ireturn, 1) := by decide +kernel
set_option maxRecDepth 20000 in
theorem ggX2_obeyingCount_X2_aim : GoodIn wsX2_obeyingCount wsX2_aim := goodIn_r _ [6, 7, 8, 9, 10, 11, 12, 13, 14, 15, 16, 17, 18, 19, 20, 21, 22, 23, 24] (by decide +kernel) (by decide +kernel)
set_option maxRecDepth 20000 in
theorem gX2_obeyingCount_X2_aim : GoodIn wsX2_obeyingCount (wsV RX2 89 RX2 yX2_aim wsX2_aim) := goodIn_app (goodIn_of _ (by decide +kernel)) ggX2_obeyingCount_X2_aim
theorem dX2_obeyingCount_0 : decode cX2_obeyingCount 0 = .ok (.iconst 0, 1) := by decide +kernel
theorem dX2_obeyingCount_1 : decode cX2_obeyingCount 1 = .ok (.istore_n 1, 1) := by decide +kernel
theorem dX2_obeyingCount_2 : decode cX2_obeyingCount 2 = .ok (.iconst 0, 1) := by decide +kernel
theorem dX2_obeyingCount_3 : decode cX2_obeyingCount 3 = .ok (.istore_n 2, 1) := by decide +kernel
theorem dX2_obeyingCount_4 : decode cX2_obeyingCount 4 = .ok (.iload_n 2, 1) := by decide +kernel
theorem dX2_obeyingCount_5 : decode cX2_obeyingCount 5 = .ok (.bipush 36, 2) := by decide +kernel
theorem dX2_obeyingCount_7 : decode cX2_obeyingCount 7 = .ok (.if_icmp .ge 26, 3) := by decide +kernel
theorem dX2_obeyingCount_10 : decode cX2_obeyingCount 10 = .ok (.aload_n 0, 1) := by decide +kernel
theorem dX2_obeyingCount_11 : decode cX2_obeyingCount 11 = .ok (.iload_n 2, 1) := by decide +kernel
theorem dX2_obeyingCount_12 : decode cX2_obeyingCount 12 = .ok (.invokevirtual 89, 3) := by decide +kernel
theorem dX2_obeyingCount_15 : decode cX2_obeyingCount 15 = .ok (.aload_n 0, 1) := by decide +kernel
theorem dX2_obeyingCount_16 : decode cX2_obeyingCount 16 = .ok (.getfield 9, 3) := by decide +kernel
theorem dX2_obeyingCount_19 : decode cX2_obeyingCount 19 = .ok (.iload_n 2, 1) := by decide +kernel
theorem dX2_obeyingCount_20 : decode cX2_obeyingCount 20 = .ok (.iaload, 1) := by decide +kernel
theorem dX2_obeyingCount_21 : decode cX2_obeyingCount 21 = .ok (.if_icmp .ne 6, 3) := by decide +kernel
theorem dX2_obeyingCount_24 : decode cX2_obeyingCount 24 = .ok (.iinc 1 1, 3) := by decide +kernel
theorem dX2_obeyingCount_27 : decode cX2_obeyingCount 27 = .ok (.iinc 2 1, 3) := by decide +kernel
theorem dX2_obeyingCount_30 : decode cX2_obeyingCount 30 = .ok (.goto (-26), 3) := by decide +kernel
theorem dX2_obeyingCount_33 : decode cX2_obeyingCount 33 = .ok (.iload_n 1, 1) := by decide +kernel
theorem dX2_obeyingCount_34 : decode cX2_obeyingCount 34 = .ok (.ireturn, 1) := by decide +kernel
set_option maxRecDepth 20000 in
theorem ggX2_awayTogether_X2_awayFromAim : GoodIn wsX2_awayTogether wsX2_awayFromAim := goodIn_r _ [5, 6, 7, 8, 9, 4, 10, 11, 12, 13, 14, 15, 16, 17, 18, 19, 20, 21, 22, 23, 24, 25, 26, 27, 28, 29, 30] (by decide +kernel) (by decide +kernel)
set_option maxRecDepth 20000 in
theorem gX2_awayTogether_X2_awayFromAim : GoodIn wsX2_awayTogether (wsV RX2 111 RX2 yX2_awayFromAim wsX2_awayFromAim) := goodIn_app (goodIn_of _ (by decide +kernel)) ggX2_awayTogether_X2_awayFromAim
theorem dX2_awayTogether_0 : decode cX2_awayTogether 0 = .ok (.iconst 0, 1) := by decide +kernel
theorem dX2_awayTogether_1 : decode cX2_awayTogether 1 = .ok (.istore_n 1, 1) := by decide +kernel
theorem dX2_awayTogether_2 : decode cX2_awayTogether 2 = .ok (.iconst 0, 1) := by decide +kernel
theorem dX2_awayTogether_3 : decode cX2_awayTogether 3 = .ok (.istore_n 2, 1) := by decide +kernel
theorem dX2_awayTogether_4 : decode cX2_awayTogether 4 = .ok (.iload_n 2, 1) := by decide +kernel
theorem dX2_awayTogether_5 : decode cX2_awayTogether 5 = .ok (.bipush 36, 2) := by decide +kernel
theorem dX2_awayTogether_7 : decode cX2_awayTogether 7 = .ok (.if_icmp .ge 24, 3) := by decide +kernel
theorem dX2_awayTogether_10 : decode cX2_awayTogether 10 = .ok (.aload_n 0, 1) := by decide +kernel
theorem dX2_awayTogether_11 : decode cX2_awayTogether 11 = .ok (.iload_n 2, 1) := by decide +kernel
theorem dX2_awayTogether_12 : decode cX2_awayTogether 12 = .ok (.invokevirtual 111, 3) := by decide +kernel
theorem dX2_awayTogether_15 : decode cX2_awayTogether 15 = .ok (.istore_n 3, 1) := by decide +kernel
theorem dX2_awayTogether_16 : decode cX2_awayTogether 16 = .ok (.iload_n 3, 1) := by decide +kernel
theorem dX2_awayTogether_17 : decode cX2_awayTogether 17 = .ok (.iconst (-1), 1) := by decide +kernel
theorem dX2_awayTogether_18 : decode cX2_awayTogether 18 = .ok (.if_icmp .eq 7, 3) := by decide +kernel
theorem dX2_awayTogether_21 : decode cX2_awayTogether 21 = .ok (.iload_n 1, 1) := by decide +kernel
theorem dX2_awayTogether_22 : decode cX2_awayTogether 22 = .ok (.iload_n 3, 1) := by decide +kernel
theorem dX2_awayTogether_23 : decode cX2_awayTogether 23 = .ok (.iadd, 1) := by decide +kernel
theorem dX2_awayTogether_24 : decode cX2_awayTogether 24 = .ok (.istore_n 1, 1) := by decide +kernel
theorem dX2_awayTogether_25 : decode cX2_awayTogether 25 = .ok (.iinc 2 1, 3) := by decide +kernel
theorem dX2_awayTogether_28 : decode cX2_awayTogether 28 = .ok (.goto (-24), 3) := by decide +kernel
theorem dX2_awayTogether_31 : decode cX2_awayTogether 31 = .ok (.iload_n 1, 1) := by decide +kernel
theorem dX2_awayTogether_32 : decode cX2_awayTogether 32 = .ok (.ireturn, 1) := by decide +kernel
theorem dX2_pointingCount_0 : decode cX2_pointingCount 0 = .ok (.iconst 0, 1) := by decide +kernel
theorem dX2_pointingCount_1 : decode cX2_pointingCount 1 = .ok (.istore_n 2, 1) := by decide +kernel
theorem dX2_pointingCount_2 : decode cX2_pointingCount 2 = .ok (.iconst 0, 1) := by decide +kernel
theorem dX2_pointingCount_3 : decode cX2_pointingCount 3 = .ok (.istore_n 3, 1) := by decide +kernel
theorem dX2_pointingCount_4 : decode cX2_pointingCount 4 = .ok (.iload_n 3, 1) := by decide +kernel
theorem dX2_pointingCount_5 : decode cX2_pointingCount 5 = .ok (.bipush 36, 2) := by decide +kernel
theorem dX2_pointingCount_7 : decode cX2_pointingCount 7 = .ok (.if_icmp .ge 22, 3) := by decide +kernel
theorem dX2_pointingCount_10 : decode cX2_pointingCount 10 = .ok (.aload_n 0, 1) := by decide +kernel
theorem dX2_pointingCount_11 : decode cX2_pointingCount 11 = .ok (.getfield 9, 3) := by decide +kernel
theorem dX2_pointingCount_14 : decode cX2_pointingCount 14 = .ok (.iload_n 3, 1) := by decide +kernel
theorem dX2_pointingCount_15 : decode cX2_pointingCount 15 = .ok (.iaload, 1) := by decide +kernel
theorem dX2_pointingCount_16 : decode cX2_pointingCount 16 = .ok (.iload_n 1, 1) := by decide +kernel
theorem dX2_pointingCount_17 : decode cX2_pointingCount 17 = .ok (.if_icmp .ne 6, 3) := by decide +kernel
theorem dX2_pointingCount_20 : decode cX2_pointingCount 20 = .ok (.iinc 2 1, 3) := by decide +kernel
theorem dX2_pointingCount_23 : decode cX2_pointingCount 23 = .ok (.iinc 3 1, 3) := by decide +kernel
theorem dX2_pointingCount_26 : decode cX2_pointingCount 26 = .ok (.goto (-22), 3) := by decide +kernel
theorem dX2_pointingCount_29 : decode cX2_pointingCount 29 = .ok (.iload_n 2, 1) := by decide +kernel
theorem dX2_pointingCount_30 : decode cX2_pointingCount 30 = .ok (.ireturn, 1) := by decide +kernel
