set_option maxRecDepth 20000 in
theorem ggX1_init_X0_init : GoodIn wsX1_init wsX0_init := goodIn_r _ [11, 12, 2, 3] (by decide +kernel) (by decide +kernel)
set_option maxRecDepth 20000 in
theorem gX1_init_X0_init_n17 : GoodIn wsX1_init (wsX0_init) := ggX1_init_X0_init
theorem dX1_init_0 : decode cX1_init 0 = .ok (.aload_n 0, 1) := by decide +kernel
theorem dX1_init_1 : decode cX1_init 1 = .ok (.invokespecial 3, 3) := by decide +kernel
theorem dX1_init_4 : decode cX1_init 4 = .ok (.aload_n 0, 1) := by decide +kernel
theorem dX1_init_5 : decode cX1_init 5 = .ok (.bipush 60, 2) := by decide +kernel
theorem dX1_init_7 : decode cX1_init 7 = .ok (.newarray .int, 2) := by decide +kernel
theorem dX1_init_9 : decode cX1_init 9 = .ok (.putfield 9, 3) := by decide +kernel
theorem dX1_init_12 : decode cX1_init 12 = .ok (.aload_n 0, 1) := by decide +kernel
theorem dX1_init_13 : decode cX1_init 13 = .ok (.new 15, 3) := by decide +kernel
theorem dX1_init_16 : decode cX1_init 16 = .ok (.dup, 1) := by decide +kernel
theorem dX1_init_17 : decode cX1_init 17 = .ok (.invokespecial 17, 3) := by decide +kernel
theorem dX1_init_20 : decode cX1_init 20 = .ok (.putfield 18, 3) := by decide +kernel
theorem dX1_init_23 : decode cX1_init 23 = .ok (.return_, 1) := by decide +kernel
theorem dX1_add_0 : decode cX1_add 0 = .ok (.aload_n 0, 1) := by decide +kernel
theorem dX1_add_1 : decode cX1_add 1 = .ok (.getfield 22, 3) := by decide +kernel
theorem dX1_add_4 : decode cX1_add 4 = .ok (.bipush 60, 2) := by decide +kernel
theorem dX1_add_6 : decode cX1_add 6 = .ok (.if_icmp .ge 23, 3) := by decide +kernel
theorem dX1_add_9 : decode cX1_add 9 = .ok (.aload_n 0, 1) := by decide +kernel
theorem dX1_add_10 : decode cX1_add 10 = .ok (.getfield 9, 3) := by decide +kernel
theorem dX1_add_13 : decode cX1_add 13 = .ok (.aload_n 0, 1) := by decide +kernel
theorem dX1_add_14 : decode cX1_add 14 = .ok (.getfield 22, 3) := by decide +kernel
theorem dX1_add_17 : decode cX1_add 17 = .ok (.iload_n 1, 1) := by decide +kernel
theorem dX1_add_18 : decode cX1_add 18 = .ok (.iastore, 1) := by decide +kernel
theorem dX1_add_19 : decode cX1_add 19 = .ok (.aload_n 0, 1) := by decide +kernel
theorem dX1_add_20 : decode cX1_add 20 = .ok (.dup, 1) := by decide +kernel
theorem dX1_add_21 : decode cX1_add 21 = .ok (.getfield 22, 3) := by decide +kernel
theorem dX1_add_24 : decode cX1_add 24 = .ok (.iconst 1, 1) := by decide +kernel
theorem dX1_add_25 : decode cX1_add 25 = .ok (.iadd, 1) := by decide +kernel
theorem dX1_add_26 : decode cX1_add 26 = .ok (.putfield 22, 3) := by decide +kernel
theorem dX1_add_29 : decode cX1_add 29 = .ok (.return_, 1) := by decide +kernel
set_option maxRecDepth 20000 in
theorem ggX1_goodLength_X0_begin : GoodIn wsX1_goodLength wsX0_begin := goodIn_r _ [8, 9, 10, 30, 31, 32, 33, 34, 35] (by decide +kernel) (by decide +kernel)
set_option maxRecDepth 20000 in
theorem gX1_goodLength_X0_begin : GoodIn wsX1_goodLength (wsV RX1 26 RX0 yX0_begin wsX0_begin) := goodIn_app (goodIn_of _ (by decide +kernel)) ggX1_goodLength_X0_begin
set_option maxRecDepth 20000 in
theorem ggX1_goodLength_X0_take : GoodIn wsX1_goodLength wsX0_take := goodIn_r _ [14, 9, 15, 16, 17, 18, 19, 20, 21, 7, 22, 23, 24, 25, 26, 10, 30, 31, 32, 33, 34, 35] (by decide +kernel) (by decide +kernel)
set_option maxRecDepth 20000 in
theorem gX1_goodLength_X0_take : GoodIn wsX1_goodLength (wsV RX1 29 RX0 yX0_take wsX0_take) := goodIn_app (goodIn_of _ (by decide +kernel)) ggX1_goodLength_X0_take
theorem dX1_goodLength_0 : decode cX1_goodLength 0 = .ok (.aload_n 0, 1) := by decide +kernel
theorem dX1_goodLength_1 : decode cX1_goodLength 1 = .ok (.getfield 18, 3) := by decide +kernel
theorem dX1_goodLength_4 : decode cX1_goodLength 4 = .ok (.invokevirtual 26, 3) := by decide +kernel
theorem dX1_goodLength_7 : decode cX1_goodLength 7 = .ok (.iconst 0, 1) := by decide +kernel
theorem dX1_goodLength_8 : decode cX1_goodLength 8 = .ok (.istore_n 1, 1) := by decide +kernel
theorem dX1_goodLength_9 : decode cX1_goodLength 9 = .ok (.iload_n 1, 1) := by decide +kernel
theorem dX1_goodLength_10 : decode cX1_goodLength 10 = .ok (.aload_n 0, 1) := by decide +kernel
theorem dX1_goodLength_11 : decode cX1_goodLength 11 = .ok (.getfield 22, 3) := by decide +kernel
theorem dX1_goodLength_14 : decode cX1_goodLength 14 = .ok (.if_icmp .ge 31, 3) := by decide +kernel
theorem dX1_goodLength_17 : decode cX1_goodLength 17 = .ok (.iload_n 1, 1) := by decide +kernel
theorem dX1_goodLength_18 : decode cX1_goodLength 18 = .ok (.bipush 60, 2) := by decide +kernel
theorem dX1_goodLength_20 : decode cX1_goodLength 20 = .ok (.if_icmp .ge 25, 3) := by decide +kernel
theorem dX1_goodLength_23 : decode cX1_goodLength 23 = .ok (.aload_n 0, 1) := by decide +kernel
theorem dX1_goodLength_24 : decode cX1_goodLength 24 = .ok (.getfield 18, 3) := by decide +kernel
theorem dX1_goodLength_27 : decode cX1_goodLength 27 = .ok (.aload_n 0, 1) := by decide +kernel
theorem dX1_goodLength_28 : decode cX1_goodLength 28 = .ok (.getfield 9, 3) := by decide +kernel
theorem dX1_goodLength_31 : decode cX1_goodLength 31 = .ok (.iload_n 1, 1) := by decide +kernel
theorem dX1_goodLength_32 : decode cX1_goodLength 32 = .ok (.iaload, 1) := by decide +kernel
theorem dX1_goodLength_33 : decode cX1_goodLength 33 = .ok (.invokevirtual 29, 3) := by decide +kernel
theorem dX1_goodLength_36 : decode cX1_goodLength 36 = .ok (.ifCond .eq 9, 3) := by decide +kernel
theorem dX1_goodLength_39 : decode cX1_goodLength 39 = .ok (.iinc 1 1, 3) := by decide +kernel
theorem dX1_goodLength_42 : decode cX1_goodLength 42 = .ok (.goto (-33), 3) := by decide +kernel
theorem dX1_goodLength_45 : decode cX1_goodLength 45 = .ok (.iload_n 1, 1) := by decide +kernel
theorem dX1_goodLength_46 : decode cX1_goodLength 46 = .ok (.ireturn, 1) := by decide +kernel
set_option maxRecDepth 20000 in
theorem ggX1_isComplete_X1_goodLength : GoodIn wsX1_isComplete wsX1_goodLength := goodIn_r _ [7, 2, 1, 8, 9, 10, 11, 12, 13, 14, 15, 16, 17, 18, 19, 20, 21, 22, 23, 24, 25, 26, 27, 28, 29, 30, 31, 36, 37, 38, 39, 40, 41, 42, 43, 44] (by decide +kernel) (by decide +kernel)
set_option maxRecDepth 20000 in
theorem gX1_isComplete_X1_goodLength : GoodIn wsX1_isComplete (wsV RX1 33 RX1 yX1_goodLength wsX1_goodLength) := goodIn_app (goodIn_of _ (by decide +kernel)) ggX1_isComplete_X1_goodLength
set_option maxRecDepth 20000 in
theorem ggX1_isComplete_X0_isBehindStrength : GoodIn wsX1_isComplete wsX0_isBehindStrength := goodIn_r _ [35, 14, 39, 40, 41, 42, 43, 44] (by decide +kernel) (by decide +kernel)
set_option maxRecDepth 20000 in
theorem gX1_isComplete_X0_isBehindStrength : GoodIn wsX1_isComplete (wsV RX1 37 RX0 yX0_isBehindStrength wsX0_isBehindStrength) := goodIn_app (goodIn_of _ (by decide +kernel)) ggX1_isComplete_X0_isBehindStrength
theorem dX1_isComplete_0 : decode cX1_isComplete 0 = .ok (.aload_n 0, 1) := by decide +kernel
theorem dX1_isComplete_1 : decode cX1_isComplete 1 = .ok (.invokevirtual 33, 3) := by decide +kernel
theorem dX1_isComplete_4 : decode cX1_isComplete 4 = .ok (.aload_n 0, 1) := by decide +kernel
theorem dX1_isComplete_5 : decode cX1_isComplete 5 = .ok (.getfield 22, 3) := by decide +kernel
theorem dX1_isComplete_8 : decode cX1_isComplete 8 = .ok (.if_icmp .ne 17, 3) := by decide +kernel
theorem dX1_isComplete_11 : decode cX1_isComplete 11 = .ok (.aload_n 0, 1) := by decide +kernel
theorem dX1_isComplete_12 : decode cX1_isComplete 12 = .ok (.getfield 18, 3) := by decide +kernel
theorem dX1_isComplete_15 : decode cX1_isComplete 15 = .ok (.invokevirtual 37, 3) := by decide +kernel
theorem dX1_isComplete_18 : decode cX1_isComplete 18 = .ok (.ifCond .eq 7, 3) := by decide +kernel
theorem dX1_isComplete_21 : decode cX1_isComplete 21 = .ok (.iconst 1, 1) := by decide +kernel
theorem dX1_isComplete_22 : decode cX1_isComplete 22 = .ok (.goto 4, 3) := by decide +kernel
theorem dX1_isComplete_25 : decode cX1_isComplete 25 = .ok (.iconst 0, 1) := by decide +kernel
theorem dX1_isComplete_26 : decode cX1_isComplete 26 = .ok (.ireturn, 1) := by decide +kernel
set_option maxRecDepth 20000 in
theorem ggX1_layInto_X0_begin : GoodIn wsX1_layInto wsX0_begin := goodIn_r _ [8, 9, 10, 41, 42, 43, 44, 45, 46] (by decide +kernel) (by decide +kernel)
set_option maxRecDepth 20000 in
theorem gX1_layInto_X0_begin : GoodIn wsX1_layInto (wsV RX1 26 RX0 yX0_begin wsX0_begin) := goodIn_app (goodIn_of _ (by decide +kernel)) ggX1_layInto_X0_begin
set_option maxRecDepth 20000 in
theorem ggX1_layInto_X0_layInto : GoodIn wsX1_layInto wsX0_layInto := goodIn_r _ [14, 15, 16, 17, 18, 19, 20, 21, 22, 23, 24, 25, 41, 42, 43, 44, 45, 46, 47, 48, 49, 50, 51, 52, 53, 54, 55, 56, 57, 58, 59] (by decide +kernel) (by decide +kernel)
set_option maxRecDepth 20000 in
theorem gX1_layInto_X0_layInto : GoodIn wsX1_layInto (wsV RX1 41 RX0 yX0_layInto wsX0_layInto) := goodIn_app (goodIn_of _ (by decide +kernel)) ggX1_layInto_X0_layInto
set_option maxRecDepth 20000 in
theorem ggX1_layInto_X0_take : GoodIn wsX1_layInto wsX0_take := goodIn_r _ [29, 9, 16, 15, 17, 18, 30, 31, 32, 7, 33, 34, 35, 36, 37, 10, 41, 42, 43, 44, 45, 46] (by decide +kernel) (by decide +kernel)
set_option maxRecDepth 20000 in
theorem gX1_layInto_X0_take : GoodIn wsX1_layInto (wsV RX1 29 RX0 yX0_take wsX0_take) := goodIn_app (goodIn_of _ (by decide +kernel)) ggX1_layInto_X0_take
theorem dX1_layInto_0 : decode cX1_layInto 0 = .ok (.aload_n 0, 1) := by decide +kernel
theorem dX1_layInto_1 : decode cX1_layInto 1 = .ok (.getfield 18, 3) := by decide +kernel
theorem dX1_layInto_4 : decode cX1_layInto 4 = .ok (.invokevirtual 26, 3) := by decide +kernel
theorem dX1_layInto_7 : decode cX1_layInto 7 = .ok (.iconst 0, 1) := by decide +kernel
theorem dX1_layInto_8 : decode cX1_layInto 8 = .ok (.istore_n 2, 1) := by decide +kernel
theorem dX1_layInto_9 : decode cX1_layInto 9 = .ok (.iload_n 2, 1) := by decide +kernel
theorem dX1_layInto_10 : decode cX1_layInto 10 = .ok (.aload_n 0, 1) := by decide +kernel
theorem dX1_layInto_11 : decode cX1_layInto 11 = .ok (.getfield 22, 3) := by decide +kernel
theorem dX1_layInto_14 : decode cX1_layInto 14 = .ok (.if_icmp .ge 48, 3) := by decide +kernel
theorem dX1_layInto_17 : decode cX1_layInto 17 = .ok (.iload_n 2, 1) := by decide +kernel
theorem dX1_layInto_18 : decode cX1_layInto 18 = .ok (.bipush 60, 2) := by decide +kernel
theorem dX1_layInto_20 : decode cX1_layInto 20 = .ok (.if_icmp .ge 42, 3) := by decide +kernel
theorem dX1_layInto_23 : decode cX1_layInto 23 = .ok (.aload_n 0, 1) := by decide +kernel
theorem dX1_layInto_24 : decode cX1_layInto 24 = .ok (.getfield 9, 3) := by decide +kernel
theorem dX1_layInto_27 : decode cX1_layInto 27 = .ok (.iload_n 2, 1) := by decide +kernel
theorem dX1_layInto_28 : decode cX1_layInto 28 = .ok (.iaload, 1) := by decide +kernel
theorem dX1_layInto_29 : decode cX1_layInto 29 = .ok (.bipush 59, 2) := by decide +kernel
theorem dX1_layInto_31 : decode cX1_layInto 31 = .ok (.if_icmp .ne 11, 3) := by decide +kernel
theorem dX1_layInto_34 : decode cX1_layInto 34 = .ok (.aload_n 0, 1) := by decide +kernel
theorem dX1_layInto_35 : decode cX1_layInto 35 = .ok (.getfield 18, 3) := by decide +kernel
theorem dX1_layInto_38 : decode cX1_layInto 38 = .ok (.aload_n 1, 1) := by decide +kernel
theorem dX1_layInto_39 : decode cX1_layInto 39 = .ok (.invokevirtual 41, 3) := by decide +kernel
theorem dX1_layInto_42 : decode cX1_layInto 42 = .ok (.aload_n 0, 1) := by decide +kernel
theorem dX1_layInto_43 : decode cX1_layInto 43 = .ok (.getfield 18, 3) := by decide +kernel
theorem dX1_layInto_46 : decode cX1_layInto 46 = .ok (.aload_n 0, 1) := by decide +kernel
theorem dX1_layInto_47 : decode cX1_layInto 47 = .ok (.getfield 9, 3) := by decide +kernel
theorem dX1_layInto_50 : decode cX1_layInto 50 = .ok (.iload_n 2, 1) := by decide +kernel
theorem dX1_layInto_51 : decode cX1_layInto 51 = .ok (.iaload, 1) := by decide +kernel
theorem dX1_layInto_52 : decode cX1_layInto 52 = .ok (.invokevirtual 29, 3) := by decide +kernel
theorem dX1_layInto_55 : decode cX1_layInto 55 = .ok (.pop, 1) := by decide +kernel
theorem dX1_layInto_56 : decode cX1_layInto 56 = .ok (.iinc 2 1, 3) := by decide +kernel
theorem dX1_layInto_59 : decode cX1_layInto 59 = .ok (.goto (-50), 3) := by decide +kernel
theorem dX1_layInto_62 : decode cX1_layInto 62 = .ok (.aload_n 0, 1) := by decide +kernel
theorem dX1_layInto_63 : decode cX1_layInto 63 = .ok (.getfield 18, 3) := by decide +kernel
theorem dX1_layInto_66 : decode cX1_layInto 66 = .ok (.aload_n 1, 1) := by decide +kernel
theorem dX1_layInto_67 : decode cX1_layInto 67 = .ok (.invokevirtual 41, 3) := by decide +kernel
theorem dX1_layInto_70 : decode cX1_layInto 70 = .ok (.return_, 1) := by decide +kernel
