set_option maxRecDepth 20000 in
theorem ggX5_bestBar_X5_fails : GoodIn wsX5_bestBar wsX5_fails := goodIn_r _ [12, 1, 58, 59, 60, 61, 62, 63, 64, 65, 66, 67, 68, 69, 70, 71] (by decide +kernel) (by decide +kernel)
set_option maxRecDepth 20000 in
theorem gX5_bestBar_X5_fails : GoodIn wsX5_bestBar (wsV RX5 43 RX5 yX5_fails wsX5_fails) := goodIn_app (goodIn_of _ (by decide +kernel)) ggX5_bestBar_X5_fails
set_option maxRecDepth 20000 in
theorem ggX5_bestBar_X5_isBar : GoodIn wsX5_bestBar wsX5_isBar := goodIn_r _ [15, 16, 17, 4, 18, 6, 7, 8] (by decide +kernel) (by decide +kernel)
set_option maxRecDepth 20000 in
theorem gX5_bestBar_X5_isBar : GoodIn wsX5_bestBar (va_wsS RX5 95 yX5_isBar wsX5_isBar) := goodIn_app (goodIn_of _ (by decide +kernel)) ggX5_bestBar_X5_isBar
set_option maxRecDepth 20000 in
theorem ggX5_bestBar_X5_best : GoodIn wsX5_bestBar wsX5_best := goodIn_r _ [22, 23, 24, 25, 26, 4, 27, 28, 29, 30, 31, 32, 33, 34, 35, 36, 37, 38, 39, 40, 41, 42, 43, 44, 45, 46, 47, 6, 7, 8, 48, 49, 50, 51, 52, 53, 54, 55, 56, 57, 58, 59, 60, 61, 62, 63, 64, 65, 66, 67, 68, 69, 70, 71] (by decide +kernel) (by decide +kernel)
set_option maxRecDepth 20000 in
theorem gX5_bestBar_X5_best : GoodIn wsX5_bestBar (wsV RX5 163 RX5 yX5_best wsX5_best) := goodIn_app (goodIn_of _ (by decide +kernel)) ggX5_bestBar_X5_best
theorem dX5_bestBar_0 : decode cX5_bestBar 0 = .ok (.aload_n 0, 1) := by decide +kernel
theorem dX5_bestBar_1 : decode cX5_bestBar 1 = .ok (.iconst 0, 1) := by decide +kernel
theorem dX5_bestBar_2 : decode cX5_bestBar 2 = .ok (.putfield 28, 3) := by decide +kernel
theorem dX5_bestBar_5 : decode cX5_bestBar 5 = .ok (.iload_n 1, 1) := by decide +kernel
theorem dX5_bestBar_6 : decode cX5_bestBar 6 = .ok (.invokestatic 81, 3) := by decide +kernel
theorem dX5_bestBar_9 : decode cX5_bestBar 9 = .ok (.ifCond .ne 9, 3) := by decide +kernel
theorem dX5_bestBar_12 : decode cX5_bestBar 12 = .ok (.aload_n 0, 1) := by decide +kernel
theorem dX5_bestBar_13 : decode cX5_bestBar 13 = .ok (.iconst 1, 1) := by decide +kernel
theorem dX5_bestBar_14 : decode cX5_bestBar 14 = .ok (.invokevirtual 43, 3) := by decide +kernel
theorem dX5_bestBar_17 : decode cX5_bestBar 17 = .ok (.ireturn, 1) := by decide +kernel
theorem dX5_bestBar_18 : decode cX5_bestBar 18 = .ok (.iload_n 2, 1) := by decide +kernel
theorem dX5_bestBar_19 : decode cX5_bestBar 19 = .ok (.iload_n 3, 1) := by decide +kernel
theorem dX5_bestBar_20 : decode cX5_bestBar 20 = .ok (.invokestatic 95, 3) := by decide +kernel
theorem dX5_bestBar_23 : decode cX5_bestBar 23 = .ok (.ifCond .eq 13, 3) := by decide +kernel
theorem dX5_bestBar_26 : decode cX5_bestBar 26 = .ok (.aload_n 0, 1) := by decide +kernel
theorem dX5_bestBar_27 : decode cX5_bestBar 27 = .ok (.iload_n 1, 1) := by decide +kernel
theorem dX5_bestBar_28 : decode cX5_bestBar 28 = .ok (.iload_n 2, 1) := by decide +kernel
theorem dX5_bestBar_29 : decode cX5_bestBar 29 = .ok (.iload_n 3, 1) := by decide +kernel
theorem dX5_bestBar_30 : decode cX5_bestBar 30 = .ok (.invokevirtual 163, 3) := by decide +kernel
theorem dX5_bestBar_33 : decode cX5_bestBar 33 = .ok (.goto 8, 3) := by decide +kernel
theorem dX5_bestBar_36 : decode cX5_bestBar 36 = .ok (.aload_n 0, 1) := by decide +kernel
theorem dX5_bestBar_37 : decode cX5_bestBar 37 = .ok (.iconst 2, 1) := by decide +kernel
theorem dX5_bestBar_38 : decode cX5_bestBar 38 = .ok (.invokevirtual 43, 3) := by decide +kernel
theorem dX5_bestBar_41 : decode cX5_bestBar 41 = .ok (.ireturn, 1) := by decide +kernel
set_option maxRecDepth 20000 in
theorem ggX5_least_X5_copies : GoodIn wsX5_least wsX5_copies := goodIn_r _ [6] (by decide +kernel) (by decide +kernel)
set_option maxRecDepth 20000 in
theorem gX5_least_X5_copies : GoodIn wsX5_least (va_wsS RX5 39 yX5_copies wsX5_copies) := goodIn_app (goodIn_of _ (by decide +kernel)) ggX5_least_X5_copies
set_option maxRecDepth 20000 in
theorem ggX5_least_X5_aim : GoodIn wsX5_least wsX5_aim := goodIn_r _ [10, 11, 12, 13, 14, 15, 5, 16, 17, 18, 19, 20, 21, 22, 23, 24, 25, 26, 27, 28, 29, 30, 31, 32, 33, 34, 35, 36, 37, 38, 39, 40, 41, 42, 43, 44, 45, 46, 47, 48, 49, 50] (by decide +kernel) (by decide +kernel)
set_option maxRecDepth 20000 in
theorem gX5_least_X5_aim : GoodIn wsX5_least (wsV RX5 74 RX5 yX5_aim wsX5_aim) := goodIn_app (goodIn_of _ (by decide +kernel)) ggX5_least_X5_aim
theorem dX5_least_0 : decode cX5_least 0 = .ok (.aload_n 0, 1) := by decide +kernel
theorem dX5_least_1 : decode cX5_least 1 = .ok (.getfield 7, 3) := by decide +kernel
theorem dX5_least_4 : decode cX5_least 4 = .ok (.iconst 0, 1) := by decide +kernel
theorem dX5_least_5 : decode cX5_least 5 = .ok (.aload_n 0, 1) := by decide +kernel
theorem dX5_least_6 : decode cX5_least 6 = .ok (.getfield 13, 3) := by decide +kernel
theorem dX5_least_9 : decode cX5_least 9 = .ok (.iconst 0, 1) := by decide +kernel
theorem dX5_least_10 : decode cX5_least 10 = .ok (.invokestatic 39, 3) := by decide +kernel
theorem dX5_least_13 : decode cX5_least 13 = .ok (.iconst 0, 1) := by decide +kernel
theorem dX5_least_14 : decode cX5_least 14 = .ok (.istore_n 2, 1) := by decide +kernel
theorem dX5_least_15 : decode cX5_least 15 = .ok (.iload_n 2, 1) := by decide +kernel
theorem dX5_least_16 : decode cX5_least 16 = .ok (.bipush 50, 2) := by decide +kernel
theorem dX5_least_18 : decode cX5_least 18 = .ok (.if_icmp .gt 36, 3) := by decide +kernel
theorem dX5_least_21 : decode cX5_least 21 = .ok (.aload_n 0, 1) := by decide +kernel
theorem dX5_least_22 : decode cX5_least 22 = .ok (.getfield 13, 3) := by decide +kernel
theorem dX5_least_25 : decode cX5_least 25 = .ok (.iconst 4, 1) := by decide +kernel
theorem dX5_least_26 : decode cX5_least 26 = .ok (.iload_n 2, 1) := by decide +kernel
theorem dX5_least_27 : decode cX5_least 27 = .ok (.iastore, 1) := by decide +kernel
theorem dX5_least_28 : decode cX5_least 28 = .ok (.aload_n 0, 1) := by decide +kernel
theorem dX5_least_29 : decode cX5_least 29 = .ok (.aload_n 0, 1) := by decide +kernel
theorem dX5_least_30 : decode cX5_least 30 = .ok (.getfield 13, 3) := by decide +kernel
theorem dX5_least_33 : decode cX5_least 33 = .ok (.iload_n 1, 1) := by decide +kernel
theorem dX5_least_34 : decode cX5_least 34 = .ok (.invokevirtual 74, 3) := by decide +kernel
theorem dX5_least_37 : decode cX5_least 37 = .ok (.aload_n 0, 1) := by decide +kernel
theorem dX5_least_38 : decode cX5_least 38 = .ok (.getfield 7, 3) := by decide +kernel
theorem dX5_least_41 : decode cX5_least 41 = .ok (.iconst 5, 1) := by decide +kernel
theorem dX5_least_42 : decode cX5_least 42 = .ok (.iaload, 1) := by decide +kernel
theorem dX5_least_43 : decode cX5_least 43 = .ok (.if_icmp .ne 5, 3) := by decide +kernel
theorem dX5_least_46 : decode cX5_least 46 = .ok (.iload_n 2, 1) := by decide +kernel
theorem dX5_least_47 : decode cX5_least 47 = .ok (.ireturn, 1) := by decide +kernel
theorem dX5_least_48 : decode cX5_least 48 = .ok (.iinc 2 1, 3) := by decide +kernel
theorem dX5_least_51 : decode cX5_least 51 = .ok (.goto (-36), 3) := by decide +kernel
theorem dX5_least_54 : decode cX5_least 54 = .ok (.iconst (-1), 1) := by decide +kernel
theorem dX5_least_55 : decode cX5_least 55 = .ok (.ireturn, 1) := by decide +kernel
set_option maxRecDepth 20000 in
theorem ggX5_leastTurns_X5_isCell : GoodIn wsX5_leastTurns wsX5_isCell := goodIn_r _ [5, 6, 7, 4, 8] (by decide +kernel) (by decide +kernel)
set_option maxRecDepth 20000 in
theorem gX5_leastTurns_X5_isCell : GoodIn wsX5_leastTurns (va_wsS RX5 81 yX5_isCell wsX5_isCell) := goodIn_app (goodIn_of _ (by decide +kernel)) ggX5_leastTurns_X5_isCell
set_option maxRecDepth 20000 in
theorem ggX5_leastTurns_X5_least : GoodIn wsX5_leastTurns wsX5_least := goodIn_r _ [12, 13, 14, 15, 16, 4, 17, 18, 19, 20, 21, 22, 23, 24, 25, 26, 27, 28, 29, 30, 31, 32, 33, 34, 6, 7, 8, 35, 36, 37, 38, 39, 40, 41, 42, 43, 44, 49, 50, 51, 52, 53, 54, 55, 56, 57, 58, 59, 60, 61, 62] (by decide +kernel) (by decide +kernel)
set_option maxRecDepth 20000 in
theorem gX5_leastTurns_X5_least : GoodIn wsX5_leastTurns (wsV RX5 166 RX5 yX5_least wsX5_least) := goodIn_app (goodIn_of _ (by decide +kernel)) ggX5_leastTurns_X5_least
set_option maxRecDepth 20000 in
theorem ggX5_leastTurns_X5_fails : GoodIn wsX5_leastTurns wsX5_fails := goodIn_r _ [48, 1, 49, 50, 51, 52, 53, 54, 55, 56, 57, 58, 59, 60, 61, 62] (by decide +kernel) (by decide +kernel)
set_option maxRecDepth 20000 in
theorem gX5_leastTurns_X5_fails : GoodIn wsX5_leastTurns (wsV RX5 43 RX5 yX5_fails wsX5_fails) := goodIn_app (goodIn_of _ (by decide +kernel)) ggX5_leastTurns_X5_fails
theorem dX5_leastTurns_0 : decode cX5_leastTurns 0 = .ok (.aload_n 0, 1) := by decide +kernel
theorem dX5_leastTurns_1 : decode cX5_leastTurns 1 = .ok (.iconst 0, 1) := by decide +kernel
theorem dX5_leastTurns_2 : decode cX5_leastTurns 2 = .ok (.putfield 28, 3) := by decide +kernel
theorem dX5_leastTurns_5 : decode cX5_leastTurns 5 = .ok (.iload_n 1, 1) := by decide +kernel
theorem dX5_leastTurns_6 : decode cX5_leastTurns 6 = .ok (.invokestatic 81, 3) := by decide +kernel
theorem dX5_leastTurns_9 : decode cX5_leastTurns 9 = .ok (.ifCond .eq 11, 3) := by decide +kernel
theorem dX5_leastTurns_12 : decode cX5_leastTurns 12 = .ok (.aload_n 0, 1) := by decide +kernel
theorem dX5_leastTurns_13 : decode cX5_leastTurns 13 = .ok (.iload_n 1, 1) := by decide +kernel
theorem dX5_leastTurns_14 : decode cX5_leastTurns 14 = .ok (.invokevirtual 166, 3) := by decide +kernel
theorem dX5_leastTurns_17 : decode cX5_leastTurns 17 = .ok (.goto 8, 3) := by decide +kernel
theorem dX5_leastTurns_20 : decode cX5_leastTurns 20 = .ok (.aload_n 0, 1) := by decide +kernel
theorem dX5_leastTurns_21 : decode cX5_leastTurns 21 = .ok (.iconst 1, 1) := by decide +kernel
theorem dX5_leastTurns_22 : decode cX5_leastTurns 22 = .ok (.invokevirtual 43, 3) := by decide +kernel
theorem dX5_leastTurns_25 : decode cX5_leastTurns 25 = .ok (.ireturn, 1) := by decide +kernel
set_option maxRecDepth 20000 in
theorem ggX5_share_X5_away : GoodIn wsX5_share wsX5_away := goodIn_r _ [6, 7, 8, 9, 5, 10, 11, 12, 13, 14, 15, 16, 17, 18, 19, 20, 21, 22, 23, 24, 25, 26, 27, 28, 29, 30, 31, 32, 33, 34, 35, 36, 37, 38, 39, 40, 41, 42, 43, 44, 45, 46, 47, 48, 49, 50] (by decide +kernel) (by decide +kernel)
set_option maxRecDepth 20000 in
theorem gX5_share_X5_away : GoodIn wsX5_share (wsV RX5 137 RX5 yX5_away wsX5_away) := goodIn_app (goodIn_of _ (by decide +kernel)) ggX5_share_X5_away
theorem dX5_share_0 : decode cX5_share 0 = .ok (.iconst 0, 1) := by decide +kernel
theorem dX5_share_1 : decode cX5_share 1 = .ok (.istore_n 1, 1) := by decide +kernel
theorem dX5_share_2 : decode cX5_share 2 = .ok (.iconst 0, 1) := by decide +kernel
theorem dX5_share_3 : decode cX5_share 3 = .ok (.istore_n 2, 1) := by decide +kernel
theorem dX5_share_4 : decode cX5_share 4 = .ok (.iconst 0, 1) := by decide +kernel
theorem dX5_share_5 : decode cX5_share 5 = .ok (.istore_n 3, 1) := by decide +kernel
theorem dX5_share_6 : decode cX5_share 6 = .ok (.iload_n 3, 1) := by decide +kernel
theorem dX5_share_7 : decode cX5_share 7 = .ok (.bipush 36, 2) := by decide +kernel
theorem dX5_share_9 : decode cX5_share 9 = .ok (.if_icmp .ge 47, 3) := by decide +kernel
theorem dX5_share_12 : decode cX5_share 12 = .ok (.aload_n 0, 1) := by decide +kernel
theorem dX5_share_13 : decode cX5_share 13 = .ok (.aload_n 0, 1) := by decide +kernel
theorem dX5_share_14 : decode cX5_share 14 = .ok (.getfield 7, 3) := by decide +kernel
theorem dX5_share_17 : decode cX5_share 17 = .ok (.iload_n 3, 1) := by decide +kernel
theorem dX5_share_18 : decode cX5_share 18 = .ok (.invokevirtual 137, 3) := by decide +kernel
theorem dX5_share_21 : decode cX5_share 21 = .ok (.istore 4, 2) := by decide +kernel
theorem dX5_share_23 : decode cX5_share 23 = .ok (.iload_n 1, 1) := by decide +kernel
theorem dX5_share_24 : decode cX5_share 24 = .ok (.iload 4, 2) := by decide +kernel
theorem dX5_share_26 : decode cX5_share 26 = .ok (.iconst (-1), 1) := by decide +kernel
theorem dX5_share_27 : decode cX5_share 27 = .ok (.if_icmp .ne 7, 3) := by decide +kernel
theorem dX5_share_30 : decode cX5_share 30 = .ok (.iconst 0, 1) := by decide +kernel
theorem dX5_share_31 : decode cX5_share 31 = .ok (.goto 4, 3) := by decide +kernel
theorem dX5_share_34 : decode cX5_share 34 = .ok (.iconst 1, 1) := by decide +kernel
theorem dX5_share_35 : decode cX5_share 35 = .ok (.iadd, 1) := by decide +kernel
theorem dX5_share_36 : decode cX5_share 36 = .ok (.istore_n 1, 1) := by decide +kernel
theorem dX5_share_37 : decode cX5_share 37 = .ok (.iload_n 2, 1) := by decide +kernel
theorem dX5_share_38 : decode cX5_share 38 = .ok (.iload 4, 2) := by decide +kernel
theorem dX5_share_40 : decode cX5_share 40 = .ok (.ifCond .ne 7, 3) := by decide +kernel
theorem dX5_share_43 : decode cX5_share 43 = .ok (.iconst 1, 1) := by decide +kernel
theorem dX5_share_44 : decode cX5_share 44 = .ok (.goto 4, 3) := by decide +kernel
theorem dX5_share_47 : decode cX5_share 47 = .ok (.iconst 0, 1) := by decide +kernel
theorem dX5_share_48 : decode cX5_share 48 = .ok (.iadd, 1) := by decide +kernel
theorem dX5_share_49 : decode cX5_share 49 = .ok (.istore_n 2, 1) := by decide +kernel
theorem dX5_share_50 : decode cX5_share 50 = .ok (.iinc 3 1, 3) := by decide +kernel
theorem dX5_share_53 : decode cX5_share 53 = .ok (.goto (-47), 3) := by decide +kernel
theorem dX5_share_56 : decode cX5_share 56 = .ok (.iload_n 1, 1) := by decide +kernel
theorem dX5_share_57 : decode cX5_share 57 = .ok (.ifCond .ne 7, 3) := by decide +kernel
theorem dX5_share_60 : decode cX5_share 60 = .ok (.dconst 1, 1) := by decide +kernel
theorem dX5_share_61 : decode cX5_share 61 = .ok (.goto 8, 3) := by decide +kernel
theorem dX5_share_64 : decode cX5_share 64 = .ok (.iload_n 2, 1) := by decide +kernel
theorem dX5_share_65 : decode cX5_share 65 = .ok (.i2d, 1) := by decide +kernel
theorem dX5_share_66 : decode cX5_share 66 = .ok (.iload_n 1, 1) := by decide +kernel
theorem dX5_share_67 : decode cX5_share 67 = .ok (.i2d, 1) := by decide +kernel
theorem dX5_share_68 : decode cX5_share 68 = .ok (.ddiv, 1) := by decide +kernel
theorem dX5_share_69 : decode cX5_share 69 = .ok (.dreturn, 1) := by decide +kernel
set_option maxRecDepth 20000 in
theorem ggX5_obedience_X5_share : GoodIn wsX5_obedience wsX5_share := goodIn_r _ [6, 7, 8, 9, 10, 5, 11, 12, 13, 14, 15, 16, 17, 18, 19, 20, 21, 22, 23, 24, 25, 26, 27, 28, 29, 30, 31, 32, 33, 34, 35, 36, 37, 38, 39, 40, 41, 42, 43, 44, 45, 46, 47, 48, 49, 50, 51, 52, 53, 54, 55] (by decide +kernel) (by decide +kernel)
set_option maxRecDepth 20000 in
theorem gX5_obedience_X5_share : GoodIn wsX5_obedience (wsV RX5 169 RX5 yX5_share wsX5_share) := goodIn_app (goodIn_of _ (by decide +kernel)) ggX5_obedience_X5_share
theorem dX5_obedience_0 : decode cX5_obedience 0 = .ok (.aload_n 0, 1) := by decide +kernel
theorem dX5_obedience_1 : decode cX5_obedience 1 = .ok (.iconst 0, 1) := by decide +kernel
theorem dX5_obedience_2 : decode cX5_obedience 2 = .ok (.putfield 28, 3) := by decide +kernel
theorem dX5_obedience_5 : decode cX5_obedience 5 = .ok (.aload_n 0, 1) := by decide +kernel
theorem dX5_obedience_6 : decode cX5_obedience 6 = .ok (.invokevirtual 169, 3) := by decide +kernel
theorem dX5_obedience_9 : decode cX5_obedience 9 = .ok (.dreturn, 1) := by decide +kernel
set_option maxRecDepth 20000 in
theorem ggX5_digest_X5_counted : GoodIn wsX5_digest wsX5_counted := goodIn_r _ [11, 4, 12, 13, 14, 10, 15, 16, 17, 18, 19, 20, 21, 22, 23, 24, 25, 26, 27, 28, 29, 30, 31, 32, 33, 34, 35, 36, 37, 38, 39, 40, 41, 42, 43, 44, 45, 46, 47, 48, 49, 50, 51, 52, 53, 54, 55, 56, 57, 58, 115, 116, 117, 118, 119, 120, 121, 122, 123, 124, 125, 126, 127, 128] (by decide +kernel) (by decide +kernel)
set_option maxRecDepth 20000 in
theorem gX5_digest_X5_counted : GoodIn wsX5_digest (wsV RX5 146 RX5 yX5_counted wsX5_counted) := goodIn_app (goodIn_of _ (by decide +kernel)) ggX5_digest_X5_counted
set_option maxRecDepth 20000 in
theorem ggX5_digest_X5_ofCell : GoodIn wsX5_digest wsX5_ofCell := goodIn_r _ [53, 4, 24, 54, 25, 20, 21, 22, 10, 23, 26, 27, 28, 29, 30, 31, 32, 33, 34, 35, 36, 37, 38, 39, 40, 41, 42, 43, 44, 45, 46, 47, 48, 49, 55, 56, 57, 58, 16, 17, 18, 19, 115, 116, 117, 118, 119, 120, 121, 122, 123, 124, 125, 126, 127, 128] (by decide +kernel) (by decide +kernel)
set_option maxRecDepth 20000 in
theorem gX5_digest_X5_ofCell : GoodIn wsX5_digest (wsV RX5 140 RX5 yX5_ofCell wsX5_ofCell) := goodIn_app (goodIn_of _ (by decide +kernel)) ggX5_digest_X5_ofCell
set_option maxRecDepth 20000 in
theorem ggX5_digest_X5_lying : GoodIn wsX5_digest wsX5_lying := goodIn_r _ [15] (by decide +kernel) (by decide +kernel)
set_option maxRecDepth 20000 in
theorem gX5_digest_X5_lying : GoodIn wsX5_digest (va_wsS RX5 99 yX5_lying wsX5_lying) := goodIn_app (goodIn_of _ (by decide +kernel)) ggX5_digest_X5_lying
set_option maxRecDepth 20000 in
theorem ggX5_digest_X5_ofBar : GoodIn wsX5_digest wsX5_ofBar := goodIn_r _ [62, 4, 115, 116, 117, 118, 119, 120, 121, 122, 123, 124, 125, 126, 127, 128] (by decide +kernel) (by decide +kernel)
set_option maxRecDepth 20000 in
theorem gX5_digest_X5_ofBar : GoodIn wsX5_digest (wsV RX5 143 RX5 yX5_ofBar wsX5_ofBar) := goodIn_app (goodIn_of _ (by decide +kernel)) ggX5_digest_X5_ofBar
set_option maxRecDepth 20000 in
theorem ggX5_digest_X5_towards : GoodIn wsX5_digest wsX5_towards := goodIn_r _ [66, 4, 115, 116, 117, 118, 119, 120, 121, 122, 123, 124, 125, 126, 127, 128] (by decide +kernel) (by decide +kernel)
set_option maxRecDepth 20000 in
theorem gX5_digest_X5_towards : GoodIn wsX5_digest (wsV RX5 149 RX5 yX5_towards wsX5_towards) := goodIn_app (goodIn_of _ (by decide +kernel)) ggX5_digest_X5_towards
set_option maxRecDepth 20000 in
theorem ggX5_digest_X5_rests : GoodIn wsX5_digest wsX5_rests := goodIn_r _ [70, 4, 71, 72, 73, 10, 74, 75, 76, 77, 78, 79, 55, 56, 57, 58, 24, 25, 20, 21, 22, 23, 26, 27, 28, 29, 30, 31, 32, 33, 34, 35, 36, 37, 38, 39, 40, 41, 42, 43, 44, 45, 46, 47, 48, 49, 115, 116, 117, 118, 119, 120, 121, 122, 123, 124, 125, 126, 127, 128] (by decide +kernel) (by decide +kernel)
set_option maxRecDepth 20000 in
theorem gX5_digest_X5_rests : GoodIn wsX5_digest (wsV RX5 152 RX5 yX5_rests wsX5_rests) := goodIn_app (goodIn_of _ (by decide +kernel)) ggX5_digest_X5_rests
set_option maxRecDepth 20000 in
theorem ggX5_digest_X5_pointed : GoodIn wsX5_digest wsX5_pointed := goodIn_r _ [83, 4, 71, 72, 73, 10, 74, 75, 76, 77, 78, 79, 55, 56, 57, 58, 24, 25, 20, 21, 22, 23, 26, 27, 28, 29, 30, 31, 32, 33, 34, 35, 36, 37, 38, 39, 40, 41, 42, 43, 44, 45, 46, 47, 48, 49, 115, 116, 117, 118, 119, 120, 121, 122, 123, 124, 125, 126, 127, 128] (by decide +kernel) (by decide +kernel)
set_option maxRecDepth 20000 in
theorem gX5_digest_X5_pointed : GoodIn wsX5_digest (wsV RX5 156 RX5 yX5_pointed wsX5_pointed) := goodIn_app (goodIn_of _ (by decide +kernel)) ggX5_digest_X5_pointed
set_option maxRecDepth 20000 in
theorem ggX5_digest_X5_byBar : GoodIn wsX5_digest wsX5_byBar := goodIn_r _ [87, 4, 71, 72, 73, 10, 74, 88, 89, 90, 20, 21, 22, 23, 24, 25, 26, 27, 28, 29, 30, 31, 32, 33, 34, 35, 36, 37, 38, 39, 40, 41, 42, 43, 44, 45, 46, 47, 48, 49, 115, 116, 117, 118, 119, 120, 121, 122, 123, 124, 125, 126, 127, 128] (by decide +kernel) (by decide +kernel)
set_option maxRecDepth 20000 in
theorem gX5_digest_X5_byBar : GoodIn wsX5_digest (wsV RX5 159 RX5 yX5_byBar wsX5_byBar) := goodIn_app (goodIn_of _ (by decide +kernel)) ggX5_digest_X5_byBar
set_option maxRecDepth 20000 in
theorem ggX5_digest_X5_best : GoodIn wsX5_digest wsX5_best := goodIn_r _ [94, 4, 71, 72, 73, 10, 74, 88, 89, 90, 20, 21, 22, 23, 24, 25, 26, 27, 28, 29, 30, 31, 32, 33, 34, 35, 36, 37, 38, 39, 40, 41, 42, 43, 44, 45, 46, 47, 48, 49, 115, 116, 117, 118, 119, 120, 121, 122, 123, 124, 125, 126, 127, 128] (by decide +kernel) (by decide +kernel)
set_option maxRecDepth 20000 in
theorem gX5_digest_X5_best : GoodIn wsX5_digest (wsV RX5 163 RX5 yX5_best wsX5_best) := goodIn_app (goodIn_of _ (by decide +kernel)) ggX5_digest_X5_best
set_option maxRecDepth 20000 in
theorem ggX5_digest_X5_least : GoodIn wsX5_digest wsX5_least := goodIn_r _ [98, 4, 71, 72, 73, 10, 74, 20, 21, 22, 23, 24, 25, 26, 27, 28, 29, 30, 31, 32, 33, 34, 35, 36, 37, 38, 39, 40, 41, 42, 43, 44, 45, 46, 47, 48, 49, 115, 116, 117, 118, 119, 120, 121, 122, 123, 124, 125, 126, 127, 128] (by decide +kernel) (by decide +kernel)
set_option maxRecDepth 20000 in
theorem gX5_digest_X5_least : GoodIn wsX5_digest (wsV RX5 166 RX5 yX5_least wsX5_least) := goodIn_app (goodIn_of _ (by decide +kernel)) ggX5_digest_X5_least
set_option maxRecDepth 20000 in
theorem ggX5_digest_X5_share : GoodIn wsX5_digest wsX5_share := goodIn_r _ [102, 4, 16, 17, 18, 10, 19, 20, 21, 22, 23, 24, 25, 26, 27, 28, 29, 30, 31, 32, 33, 34, 35, 36, 37, 38, 39, 40, 41, 42, 43, 44, 45, 46, 47, 48, 49, 115, 116, 117, 118, 119, 120, 121, 122, 123, 124, 125, 126, 127, 128] (by decide +kernel) (by decide +kernel)
set_option maxRecDepth 20000 in
theorem gX5_digest_X5_share : GoodIn wsX5_digest (wsV RX5 169 RX5 yX5_share wsX5_share) := goodIn_app (goodIn_of _ (by decide +kernel)) ggX5_digest_X5_share
set_option maxRecDepth 20000 in
theorem ggX5_digest_Jxe99ae_doubleToLongBits_ccdee : GoodIn wsX5_digest wsJxe99ae_doubleToLongBits_ccdee := goodIn_r _ [106, 107, 108, 109, 110, 111, 112, 113, 105, 114] (by decide +kernel) (by decide +kernel)
set_option maxRecDepth 20000 in
theorem gX5_digest_Jxe99ae_doubleToLongBits_ccdee : GoodIn wsX5_digest (va_wsS RX5 177 yJxe99ae_doubleToLongBits_ccdee wsJxe99ae_doubleToLongBits_ccdee) := goodIn_app (goodIn_of _ (by decide +kernel)) ggX5_digest_Jxe99ae_doubleToLongBits_ccdee
theorem dX5_digest_0 : decode cX5_digest 0 = .ok (.aload_n 0, 1) := by decide +kernel
theorem dX5_digest_1 : decode cX5_digest 1 = .ok (.iconst 0, 1) := by decide +kernel
theorem dX5_digest_2 : decode cX5_digest 2 = .ok (.putfield 28, 3) := by decide +kernel
theorem dX5_digest_5 : decode cX5_digest 5 = .ok (.ldc2_w 173, 3) := by decide +kernel
theorem dX5_digest_8 : decode cX5_digest 8 = .ok (.lstore_n 1, 1) := by decide +kernel
theorem dX5_digest_9 : decode cX5_digest 9 = .ok (.iconst 0, 1) := by decide +kernel
theorem dX5_digest_10 : decode cX5_digest 10 = .ok (.istore_n 3, 1) := by decide +kernel
theorem dX5_digest_11 : decode cX5_digest 11 = .ok (.iload_n 3, 1) := by decide +kernel
theorem dX5_digest_12 : decode cX5_digest 12 = .ok (.bipush 9, 2) := by decide +kernel
theorem dX5_digest_14 : decode cX5_digest 14 = .ok (.if_icmp .ge 22, 3) := by decide +kernel
theorem dX5_digest_17 : decode cX5_digest 17 = .ok (.ldc2_w 175, 3) := by decide +kernel
theorem dX5_digest_20 : decode cX5_digest 20 = .ok (.lload_n 1, 1) := by decide +kernel
theorem dX5_digest_21 : decode cX5_digest 21 = .ok (.lmul, 1) := by decide +kernel
theorem dX5_digest_22 : decode cX5_digest 22 = .ok (.aload_n 0, 1) := by decide +kernel
theorem dX5_digest_23 : decode cX5_digest 23 = .ok (.iload_n 3, 1) := by decide +kernel
theorem dX5_digest_24 : decode cX5_digest 24 = .ok (.invokevirtual 146, 3) := by decide +kernel
theorem dX5_digest_27 : decode cX5_digest 27 = .ok (.i2l, 1) := by decide +kernel
theorem dX5_digest_28 : decode cX5_digest 28 = .ok (.ladd, 1) := by decide +kernel
theorem dX5_digest_29 : decode cX5_digest 29 = .ok (.lstore_n 1, 1) := by decide +kernel
theorem dX5_digest_30 : decode cX5_digest 30 = .ok (.iinc 3 1, 3) := by decide +kernel
theorem dX5_digest_33 : decode cX5_digest 33 = .ok (.goto (-22), 3) := by decide +kernel
theorem dX5_digest_36 : decode cX5_digest 36 = .ok (.iconst 0, 1) := by decide +kernel
theorem dX5_digest_37 : decode cX5_digest 37 = .ok (.istore_n 3, 1) := by decide +kernel
theorem dX5_digest_38 : decode cX5_digest 38 = .ok (.iload_n 3, 1) := by decide +kernel
theorem dX5_digest_39 : decode cX5_digest 39 = .ok (.iconst 3, 1) := by decide +kernel
theorem dX5_digest_40 : decode cX5_digest 40 = .ok (.if_icmp .ge 23, 3) := by decide +kernel
theorem dX5_digest_43 : decode cX5_digest 43 = .ok (.ldc2_w 175, 3) := by decide +kernel
theorem dX5_digest_46 : decode cX5_digest 46 = .ok (.lload_n 1, 1) := by decide +kernel
theorem dX5_digest_47 : decode cX5_digest 47 = .ok (.lmul, 1) := by decide +kernel
theorem dX5_digest_48 : decode cX5_digest 48 = .ok (.aload_n 0, 1) := by decide +kernel
theorem dX5_digest_49 : decode cX5_digest 49 = .ok (.getfield 7, 3) := by decide +kernel
theorem dX5_digest_52 : decode cX5_digest 52 = .ok (.iload_n 3, 1) := by decide +kernel
theorem dX5_digest_53 : decode cX5_digest 53 = .ok (.iaload, 1) := by decide +kernel
theorem dX5_digest_54 : decode cX5_digest 54 = .ok (.i2l, 1) := by decide +kernel
theorem dX5_digest_55 : decode cX5_digest 55 = .ok (.ladd, 1) := by decide +kernel
theorem dX5_digest_56 : decode cX5_digest 56 = .ok (.lstore_n 1, 1) := by decide +kernel
theorem dX5_digest_57 : decode cX5_digest 57 = .ok (.iinc 3 1, 3) := by decide +kernel
theorem dX5_digest_60 : decode cX5_digest 60 = .ok (.goto (-22), 3) := by decide +kernel
theorem dX5_digest_63 : decode cX5_digest 63 = .ok (.iconst 0, 1) := by decide +kernel
theorem dX5_digest_64 : decode cX5_digest 64 = .ok (.istore_n 3, 1) := by decide +kernel
theorem dX5_digest_65 : decode cX5_digest 65 = .ok (.iload_n 3, 1) := by decide +kernel
theorem dX5_digest_66 : decode cX5_digest 66 = .ok (.sipush 288, 3) := by decide +kernel
theorem dX5_digest_69 : decode cX5_digest 69 = .ok (.if_icmp .ge 29, 3) := by decide +kernel
theorem dX5_digest_72 : decode cX5_digest 72 = .ok (.ldc2_w 175, 3) := by decide +kernel
theorem dX5_digest_75 : decode cX5_digest 75 = .ok (.lload_n 1, 1) := by decide +kernel
theorem dX5_digest_76 : decode cX5_digest 76 = .ok (.lmul, 1) := by decide +kernel
theorem dX5_digest_77 : decode cX5_digest 77 = .ok (.aload_n 0, 1) := by decide +kernel
theorem dX5_digest_78 : decode cX5_digest 78 = .ok (.iload_n 3, 1) := by decide +kernel
theorem dX5_digest_79 : decode cX5_digest 79 = .ok (.bipush 8, 2) := by decide +kernel
theorem dX5_digest_81 : decode cX5_digest 81 = .ok (.idiv, 1) := by decide +kernel
theorem dX5_digest_82 : decode cX5_digest 82 = .ok (.iload_n 3, 1) := by decide +kernel
theorem dX5_digest_83 : decode cX5_digest 83 = .ok (.bipush 8, 2) := by decide +kernel
theorem dX5_digest_85 : decode cX5_digest 85 = .ok (.irem, 1) := by decide +kernel
theorem dX5_digest_86 : decode cX5_digest 86 = .ok (.invokevirtual 140, 3) := by decide +kernel
theorem dX5_digest_89 : decode cX5_digest 89 = .ok (.i2l, 1) := by decide +kernel
theorem dX5_digest_90 : decode cX5_digest 90 = .ok (.ladd, 1) := by decide +kernel
theorem dX5_digest_91 : decode cX5_digest 91 = .ok (.lstore_n 1, 1) := by decide +kernel
theorem dX5_digest_92 : decode cX5_digest 92 = .ok (.iinc 3 1, 3) := by decide +kernel
theorem dX5_digest_95 : decode cX5_digest 95 = .ok (.goto (-30), 3) := by decide +kernel
theorem dX5_digest_98 : decode cX5_digest 98 = .ok (.aload_n 0, 1) := by decide +kernel
theorem dX5_digest_99 : decode cX5_digest 99 = .ok (.getfield 7, 3) := by decide +kernel
theorem dX5_digest_102 : decode cX5_digest 102 = .ok (.invokestatic 99, 3) := by decide +kernel
theorem dX5_digest_105 : decode cX5_digest 105 = .ok (.istore_n 3, 1) := by decide +kernel
theorem dX5_digest_106 : decode cX5_digest 106 = .ok (.iconst 0, 1) := by decide +kernel
theorem dX5_digest_107 : decode cX5_digest 107 = .ok (.istore 4, 2) := by decide +kernel
theorem dX5_digest_109 : decode cX5_digest 109 = .ok (.iload 4, 2) := by decide +kernel
theorem dX5_digest_111 : decode cX5_digest 111 = .ok (.iconst 3, 1) := by decide +kernel
theorem dX5_digest_112 : decode cX5_digest 112 = .ok (.iload_n 3, 1) := by decide +kernel
theorem dX5_digest_113 : decode cX5_digest 113 = .ok (.imul, 1) := by decide +kernel
theorem dX5_digest_114 : decode cX5_digest 114 = .ok (.if_icmp .ge 29, 3) := by decide +kernel
theorem dX5_digest_117 : decode cX5_digest 117 = .ok (.ldc2_w 175, 3) := by decide +kernel
theorem dX5_digest_120 : decode cX5_digest 120 = .ok (.lload_n 1, 1) := by decide +kernel
theorem dX5_digest_121 : decode cX5_digest 121 = .ok (.lmul, 1) := by decide +kernel
theorem dX5_digest_122 : decode cX5_digest 122 = .ok (.aload_n 0, 1) := by decide +kernel
theorem dX5_digest_123 : decode cX5_digest 123 = .ok (.iload 4, 2) := by decide +kernel
theorem dX5_digest_125 : decode cX5_digest 125 = .ok (.iconst 3, 1) := by decide +kernel
theorem dX5_digest_126 : decode cX5_digest 126 = .ok (.idiv, 1) := by decide +kernel
theorem dX5_digest_127 : decode cX5_digest 127 = .ok (.iload 4, 2) := by decide +kernel
theorem dX5_digest_129 : decode cX5_digest 129 = .ok (.iconst 3, 1) := by decide +kernel
theorem dX5_digest_130 : decode cX5_digest 130 = .ok (.irem, 1) := by decide +kernel
theorem dX5_digest_131 : decode cX5_digest 131 = .ok (.invokevirtual 143, 3) := by decide +kernel
theorem dX5_digest_134 : decode cX5_digest 134 = .ok (.i2l, 1) := by decide +kernel
theorem dX5_digest_135 : decode cX5_digest 135 = .ok (.ladd, 1) := by decide +kernel
theorem dX5_digest_136 : decode cX5_digest 136 = .ok (.lstore_n 1, 1) := by decide +kernel
theorem dX5_digest_137 : decode cX5_digest 137 = .ok (.iinc 4 1, 3) := by decide +kernel
theorem dX5_digest_140 : decode cX5_digest 140 = .ok (.goto (-31), 3) := by decide +kernel
theorem dX5_digest_143 : decode cX5_digest 143 = .ok (.iconst 0, 1) := by decide +kernel
theorem dX5_digest_144 : decode cX5_digest 144 = .ok (.istore 4, 2) := by decide +kernel
theorem dX5_digest_146 : decode cX5_digest 146 = .ok (.iload 4, 2) := by decide +kernel
theorem dX5_digest_148 : decode cX5_digest 148 = .ok (.bipush 8, 2) := by decide +kernel
theorem dX5_digest_150 : decode cX5_digest 150 = .ok (.if_icmp .ge 23, 3) := by decide +kernel
theorem dX5_digest_153 : decode cX5_digest 153 = .ok (.ldc2_w 175, 3) := by decide +kernel
theorem dX5_digest_156 : decode cX5_digest 156 = .ok (.lload_n 1, 1) := by decide +kernel
theorem dX5_digest_157 : decode cX5_digest 157 = .ok (.lmul, 1) := by decide +kernel
theorem dX5_digest_158 : decode cX5_digest 158 = .ok (.aload_n 0, 1) := by decide +kernel
theorem dX5_digest_159 : decode cX5_digest 159 = .ok (.iload 4, 2) := by decide +kernel
theorem dX5_digest_161 : decode cX5_digest 161 = .ok (.invokevirtual 149, 3) := by decide +kernel
theorem dX5_digest_164 : decode cX5_digest 164 = .ok (.i2l, 1) := by decide +kernel
theorem dX5_digest_165 : decode cX5_digest 165 = .ok (.ladd, 1) := by decide +kernel
theorem dX5_digest_166 : decode cX5_digest 166 = .ok (.lstore_n 1, 1) := by decide +kernel
theorem dX5_digest_167 : decode cX5_digest 167 = .ok (.iinc 4 1, 3) := by decide +kernel
theorem dX5_digest_170 : decode cX5_digest 170 = .ok (.goto (-24), 3) := by decide +kernel
theorem dX5_digest_173 : decode cX5_digest 173 = .ok (.ldc2_w 175, 3) := by decide +kernel
theorem dX5_digest_176 : decode cX5_digest 176 = .ok (.lload_n 1, 1) := by decide +kernel
theorem dX5_digest_177 : decode cX5_digest 177 = .ok (.lmul, 1) := by decide +kernel
theorem dX5_digest_178 : decode cX5_digest 178 = .ok (.aload_n 0, 1) := by decide +kernel
theorem dX5_digest_179 : decode cX5_digest 179 = .ok (.invokevirtual 152, 3) := by decide +kernel
theorem dX5_digest_182 : decode cX5_digest 182 = .ok (.i2l, 1) := by decide +kernel
theorem dX5_digest_183 : decode cX5_digest 183 = .ok (.ladd, 1) := by decide +kernel
theorem dX5_digest_184 : decode cX5_digest 184 = .ok (.lstore_n 1, 1) := by decide +kernel
theorem dX5_digest_185 : decode cX5_digest 185 = .ok (.ldc2_w 175, 3) := by decide +kernel
theorem dX5_digest_188 : decode cX5_digest 188 = .ok (.ldc2_w 175, 3) := by decide +kernel
theorem dX5_digest_191 : decode cX5_digest 191 = .ok (.ldc2_w 175, 3) := by decide +kernel
theorem dX5_digest_194 : decode cX5_digest 194 = .ok (.lload_n 1, 1) := by decide +kernel
theorem dX5_digest_195 : decode cX5_digest 195 = .ok (.lmul, 1) := by decide +kernel
theorem dX5_digest_196 : decode cX5_digest 196 = .ok (.aload_n 0, 1) := by decide +kernel
theorem dX5_digest_197 : decode cX5_digest 197 = .ok (.iconst 0, 1) := by decide +kernel
theorem dX5_digest_198 : decode cX5_digest 198 = .ok (.bipush 9, 2) := by decide +kernel
theorem dX5_digest_200 : decode cX5_digest 200 = .ok (.invokevirtual 156, 3) := by decide +kernel
theorem dX5_digest_203 : decode cX5_digest 203 = .ok (.i2l, 1) := by decide +kernel
theorem dX5_digest_204 : decode cX5_digest 204 = .ok (.ladd, 1) := by decide +kernel
theorem dX5_digest_205 : decode cX5_digest 205 = .ok (.lmul, 1) := by decide +kernel
theorem dX5_digest_206 : decode cX5_digest 206 = .ok (.aload_n 0, 1) := by decide +kernel
theorem dX5_digest_207 : decode cX5_digest 207 = .ok (.bipush 14, 2) := by decide +kernel
theorem dX5_digest_209 : decode cX5_digest 209 = .ok (.bipush 9, 2) := by decide +kernel
theorem dX5_digest_211 : decode cX5_digest 211 = .ok (.invokevirtual 156, 3) := by decide +kernel
theorem dX5_digest_214 : decode cX5_digest 214 = .ok (.i2l, 1) := by decide +kernel
theorem dX5_digest_215 : decode cX5_digest 215 = .ok (.ladd, 1) := by decide +kernel
theorem dX5_digest_216 : decode cX5_digest 216 = .ok (.lmul, 1) := by decide +kernel
theorem dX5_digest_217 : decode cX5_digest 217 = .ok (.aload_n 0, 1) := by decide +kernel
theorem dX5_digest_218 : decode cX5_digest 218 = .ok (.bipush 35, 2) := by decide +kernel
theorem dX5_digest_220 : decode cX5_digest 220 = .ok (.bipush 9, 2) := by decide +kernel
theorem dX5_digest_222 : decode cX5_digest 222 = .ok (.invokevirtual 156, 3) := by decide +kernel
theorem dX5_digest_225 : decode cX5_digest 225 = .ok (.i2l, 1) := by decide +kernel
theorem dX5_digest_226 : decode cX5_digest 226 = .ok (.ladd, 1) := by decide +kernel
theorem dX5_digest_227 : decode cX5_digest 227 = .ok (.lstore_n 1, 1) := by decide +kernel
theorem dX5_digest_228 : decode cX5_digest 228 = .ok (.ldc2_w 175, 3) := by decide +kernel
theorem dX5_digest_231 : decode cX5_digest 231 = .ok (.ldc2_w 175, 3) := by decide +kernel
theorem dX5_digest_234 : decode cX5_digest 234 = .ok (.ldc2_w 175, 3) := by decide +kernel
theorem dX5_digest_237 : decode cX5_digest 237 = .ok (.lload_n 1, 1) := by decide +kernel
theorem dX5_digest_238 : decode cX5_digest 238 = .ok (.lmul, 1) := by decide +kernel
theorem dX5_digest_239 : decode cX5_digest 239 = .ok (.aload_n 0, 1) := by decide +kernel
theorem dX5_digest_240 : decode cX5_digest 240 = .ok (.bipush 14, 2) := by decide +kernel
theorem dX5_digest_242 : decode cX5_digest 242 = .ok (.iconst 2, 1) := by decide +kernel
theorem dX5_digest_243 : decode cX5_digest 243 = .ok (.bipush 20, 2) := by decide +kernel
theorem dX5_digest_245 : decode cX5_digest 245 = .ok (.invokevirtual 159, 3) := by decide +kernel
theorem dX5_digest_248 : decode cX5_digest 248 = .ok (.i2l, 1) := by decide +kernel
theorem dX5_digest_249 : decode cX5_digest 249 = .ok (.ladd, 1) := by decide +kernel
theorem dX5_digest_250 : decode cX5_digest 250 = .ok (.lmul, 1) := by decide +kernel
theorem dX5_digest_251 : decode cX5_digest 251 = .ok (.aload_n 0, 1) := by decide +kernel
theorem dX5_digest_252 : decode cX5_digest 252 = .ok (.bipush 20, 2) := by decide +kernel
theorem dX5_digest_254 : decode cX5_digest 254 = .ok (.iconst 0, 1) := by decide +kernel
theorem dX5_digest_255 : decode cX5_digest 255 = .ok (.bipush 30, 2) := by decide +kernel
theorem dX5_digest_257 : decode cX5_digest 257 = .ok (.invokevirtual 163, 3) := by decide +kernel
theorem dX5_digest_260 : decode cX5_digest 260 = .ok (.i2l, 1) := by decide +kernel
theorem dX5_digest_261 : decode cX5_digest 261 = .ok (.ladd, 1) := by decide +kernel
theorem dX5_digest_262 : decode cX5_digest 262 = .ok (.lmul, 1) := by decide +kernel
theorem dX5_digest_263 : decode cX5_digest 263 = .ok (.aload_n 0, 1) := by decide +kernel
theorem dX5_digest_264 : decode cX5_digest 264 = .ok (.bipush 7, 2) := by decide +kernel
theorem dX5_digest_266 : decode cX5_digest 266 = .ok (.invokevirtual 166, 3) := by decide +kernel
theorem dX5_digest_269 : decode cX5_digest 269 = .ok (.i2l, 1) := by decide +kernel
theorem dX5_digest_270 : decode cX5_digest 270 = .ok (.ladd, 1) := by decide +kernel
theorem dX5_digest_271 : decode cX5_digest 271 = .ok (.lstore_n 1, 1) := by decide +kernel
theorem dX5_digest_272 : decode cX5_digest 272 = .ok (.ldc2_w 175, 3) := by decide +kernel
theorem dX5_digest_275 : decode cX5_digest 275 = .ok (.ldc2_w 175, 3) := by decide +kernel
theorem dX5_digest_278 : decode cX5_digest 278 = .ok (.lload_n 1, 1) := by decide +kernel
theorem dX5_digest_279 : decode cX5_digest 279 = .ok (.lmul, 1) := by decide +kernel
theorem dX5_digest_280 : decode cX5_digest 280 = .ok (.aload_n 0, 1) := by decide +kernel
theorem dX5_digest_281 : decode cX5_digest 281 = .ok (.invokevirtual 169, 3) := by decide +kernel
theorem dX5_digest_284 : decode cX5_digest 284 = .ok (.invokestatic 177, 3) := by decide +kernel
theorem dX5_digest_287 : decode cX5_digest 287 = .ok (.ladd, 1) := by decide +kernel
theorem dX5_digest_288 : decode cX5_digest 288 = .ok (.lmul, 1) := by decide +kernel
theorem dX5_digest_289 : decode cX5_digest 289 = .ok (.aload_n 0, 1) := by decide +kernel
theorem dX5_digest_290 : decode cX5_digest 290 = .ok (.getfield 110, 3) := by decide +kernel
theorem dX5_digest_293 : decode cX5_digest 293 = .ok (.i2l, 1) := by decide +kernel
theorem dX5_digest_294 : decode cX5_digest 294 = .ok (.ladd, 1) := by decide +kernel
theorem dX5_digest_295 : decode cX5_digest 295 = .ok (.lstore_n 1, 1) := by decide +kernel
theorem dX5_digest_296 : decode cX5_digest 296 = .ok (.iconst 0, 1) := by decide +kernel
theorem dX5_digest_297 : decode cX5_digest 297 = .ok (.istore 4, 2) := by decide +kernel
theorem dX5_digest_299 : decode cX5_digest 299 = .ok (.iload 4, 2) := by decide +kernel
theorem dX5_digest_301 : decode cX5_digest 301 = .ok (.aload_n 0, 1) := by decide +kernel
theorem dX5_digest_302 : decode cX5_digest 302 = .ok (.getfield 110, 3) := by decide +kernel
theorem dX5_digest_305 : decode cX5_digest 305 = .ok (.if_icmp .ge 24, 3) := by decide +kernel
theorem dX5_digest_308 : decode cX5_digest 308 = .ok (.ldc2_w 175, 3) := by decide +kernel
theorem dX5_digest_311 : decode cX5_digest 311 = .ok (.lload_n 1, 1) := by decide +kernel
theorem dX5_digest_312 : decode cX5_digest 312 = .ok (.lmul, 1) := by decide +kernel
theorem dX5_digest_313 : decode cX5_digest 313 = .ok (.aload_n 0, 1) := by decide +kernel
theorem dX5_digest_314 : decode cX5_digest 314 = .ok (.getfield 19, 3) := by decide +kernel
theorem dX5_digest_317 : decode cX5_digest 317 = .ok (.iload 4, 2) := by decide +kernel
theorem dX5_digest_319 : decode cX5_digest 319 = .ok (.iaload, 1) := by decide +kernel
theorem dX5_digest_320 : decode cX5_digest 320 = .ok (.i2l, 1) := by decide +kernel
theorem dX5_digest_321 : decode cX5_digest 321 = .ok (.ladd, 1) := by decide +kernel
theorem dX5_digest_322 : decode cX5_digest 322 = .ok (.lstore_n 1, 1) := by decide +kernel
theorem dX5_digest_323 : decode cX5_digest 323 = .ok (.iinc 4 1, 3) := by decide +kernel
theorem dX5_digest_326 : decode cX5_digest 326 = .ok (.goto (-27), 3) := by decide +kernel
theorem dX5_digest_329 : decode cX5_digest 329 = .ok (.lload_n 1, 1) := by decide +kernel
theorem dX5_digest_330 : decode cX5_digest 330 = .ok (.lreturn, 1) := by decide +kernel
