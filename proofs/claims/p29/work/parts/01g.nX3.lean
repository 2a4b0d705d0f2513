set_option maxRecDepth 20000 in
theorem ggX3_init_X2_init : GoodIn wsX3_init wsX2_init := goodIn_r _ [10, 11, 2, 3, 12, 13, 14, 15, 16, 17, 18, 19, 20, 21, 22, 23, 24, 25, 26, 7, 27, 28, 29, 30, 31, 32, 33, 34, 35, 36, 37, 38, 39, 40, 41, 42, 43, 44, 45, 46, 47, 48, 49, 50, 51, 52, 53, 54, 55, 56, 57, 58, 59, 60, 64, 65, 66, 67, 68, 69, 70, 71, 72, 73, 74, 75, 76] (by decide +kernel) (by decide +kernel)
set_option maxRecDepth 20000 in
theorem gX3_init_X2_init : GoodIn wsX3_init (wsX2_init) := ggX3_init_X2_init
theorem dX3_init_0 : decode cX3_init 0 = .ok (.aload_n 0, 1) := by decide +kernel
theorem dX3_init_1 : decode cX3_init 1 = .ok (.invokespecial 3, 3) := by decide +kernel
theorem dX3_init_4 : decode cX3_init 4 = .ok (.aload_n 0, 1) := by decide +kernel
theorem dX3_init_5 : decode cX3_init 5 = .ok (.bipush 6, 2) := by decide +kernel
theorem dX3_init_7 : decode cX3_init 7 = .ok (.anewarray 9, 3) := by decide +kernel
theorem dX3_init_10 : decode cX3_init 10 = .ok (.putfield 11, 3) := by decide +kernel
theorem dX3_init_13 : decode cX3_init 13 = .ok (.iconst 0, 1) := by decide +kernel
theorem dX3_init_14 : decode cX3_init 14 = .ok (.istore_n 1, 1) := by decide +kernel
theorem dX3_init_15 : decode cX3_init 15 = .ok (.iload_n 1, 1) := by decide +kernel
theorem dX3_init_16 : decode cX3_init 16 = .ok (.bipush 6, 2) := by decide +kernel
theorem dX3_init_18 : decode cX3_init 18 = .ok (.if_icmp .ge 22, 3) := by decide +kernel
theorem dX3_init_21 : decode cX3_init 21 = .ok (.aload_n 0, 1) := by decide +kernel
theorem dX3_init_22 : decode cX3_init 22 = .ok (.getfield 11, 3) := by decide +kernel
theorem dX3_init_25 : decode cX3_init 25 = .ok (.iload_n 1, 1) := by decide +kernel
theorem dX3_init_26 : decode cX3_init 26 = .ok (.new 9, 3) := by decide +kernel
theorem dX3_init_29 : decode cX3_init 29 = .ok (.dup, 1) := by decide +kernel
theorem dX3_init_30 : decode cX3_init 30 = .ok (.invokespecial 17, 3) := by decide +kernel
theorem dX3_init_33 : decode cX3_init 33 = .ok (.aastore, 1) := by decide +kernel
theorem dX3_init_34 : decode cX3_init 34 = .ok (.iinc 1 1, 3) := by decide +kernel
theorem dX3_init_37 : decode cX3_init 37 = .ok (.goto (-22), 3) := by decide +kernel
theorem dX3_init_40 : decode cX3_init 40 = .ok (.return_, 1) := by decide +kernel
set_option maxRecDepth 20000 in
theorem ggX3_save_X2_copyFrom : GoodIn wsX3_save wsX2_copyFrom := goodIn_r _ [8, 9, 10, 11, 12, 13, 14, 15, 16, 17, 18, 19, 20, 21, 25, 26, 27, 28, 29, 30, 31, 32, 33, 34, 35, 36, 37] (by decide +kernel) (by decide +kernel)
set_option maxRecDepth 20000 in
theorem gX3_save_X2_copyFrom : GoodIn wsX3_save (wsV RX3 22 RX2 yX2_copyFrom wsX2_copyFrom) := goodIn_app (goodIn_of _ (by decide +kernel)) ggX3_save_X2_copyFrom
theorem dX3_save_0 : decode cX3_save 0 = .ok (.aload_n 0, 1) := by decide +kernel
theorem dX3_save_1 : decode cX3_save 1 = .ok (.getfield 11, 3) := by decide +kernel
theorem dX3_save_4 : decode cX3_save 4 = .ok (.aload_n 0, 1) := by decide +kernel
theorem dX3_save_5 : decode cX3_save 5 = .ok (.getfield 18, 3) := by decide +kernel
theorem dX3_save_8 : decode cX3_save 8 = .ok (.aaload, 1) := by decide +kernel
theorem dX3_save_9 : decode cX3_save 9 = .ok (.astore_n 2, 1) := by decide +kernel
theorem dX3_save_10 : decode cX3_save 10 = .ok (.aload_n 2, 1) := by decide +kernel
theorem dX3_save_11 : decode cX3_save 11 = .ok (.ifnull 8, 3) := by decide +kernel
theorem dX3_save_14 : decode cX3_save 14 = .ok (.aload_n 2, 1) := by decide +kernel
theorem dX3_save_15 : decode cX3_save 15 = .ok (.aload_n 1, 1) := by decide +kernel
theorem dX3_save_16 : decode cX3_save 16 = .ok (.invokevirtual 22, 3) := by decide +kernel
theorem dX3_save_19 : decode cX3_save 19 = .ok (.aload_n 0, 1) := by decide +kernel
theorem dX3_save_20 : decode cX3_save 20 = .ok (.aload_n 0, 1) := by decide +kernel
theorem dX3_save_21 : decode cX3_save 21 = .ok (.getfield 18, 3) := by decide +kernel
theorem dX3_save_24 : decode cX3_save 24 = .ok (.iconst 1, 1) := by decide +kernel
theorem dX3_save_25 : decode cX3_save 25 = .ok (.iadd, 1) := by decide +kernel
theorem dX3_save_26 : decode cX3_save 26 = .ok (.bipush 6, 2) := by decide +kernel
theorem dX3_save_28 : decode cX3_save 28 = .ok (.if_icmp .ge 12, 3) := by decide +kernel
theorem dX3_save_31 : decode cX3_save 31 = .ok (.aload_n 0, 1) := by decide +kernel
theorem dX3_save_32 : decode cX3_save 32 = .ok (.getfield 18, 3) := by decide +kernel
theorem dX3_save_35 : decode cX3_save 35 = .ok (.iconst 1, 1) := by decide +kernel
theorem dX3_save_36 : decode cX3_save 36 = .ok (.iadd, 1) := by decide +kernel
theorem dX3_save_37 : decode cX3_save 37 = .ok (.goto 4, 3) := by decide +kernel
theorem dX3_save_40 : decode cX3_save 40 = .ok (.iconst 0, 1) := by decide +kernel
theorem dX3_save_41 : decode cX3_save 41 = .ok (.putfield 18, 3) := by decide +kernel
theorem dX3_save_44 : decode cX3_save 44 = .ok (.aload_n 0, 1) := by decide +kernel
theorem dX3_save_45 : decode cX3_save 45 = .ok (.getfield 26, 3) := by decide +kernel
theorem dX3_save_48 : decode cX3_save 48 = .ok (.bipush 6, 2) := by decide +kernel
theorem dX3_save_50 : decode cX3_save 50 = .ok (.if_icmp .ge 13, 3) := by decide +kernel
theorem dX3_save_53 : decode cX3_save 53 = .ok (.aload_n 0, 1) := by decide +kernel
theorem dX3_save_54 : decode cX3_save 54 = .ok (.dup, 1) := by decide +kernel
theorem dX3_save_55 : decode cX3_save 55 = .ok (.getfield 26, 3) := by decide +kernel
theorem dX3_save_58 : decode cX3_save 58 = .ok (.iconst 1, 1) := by decide +kernel
theorem dX3_save_59 : decode cX3_save 59 = .ok (.iadd, 1) := by decide +kernel
theorem dX3_save_60 : decode cX3_save 60 = .ok (.putfield 26, 3) := by decide +kernel
theorem dX3_save_63 : decode cX3_save 63 = .ok (.return_, 1) := by decide +kernel
set_option maxRecDepth 20000 in
theorem ggX3_restoreInto_X2_copyFrom : GoodIn wsX3_restoreInto wsX2_copyFrom := goodIn_r _ [8, 9, 10, 11, 12, 13, 14, 15, 16, 17, 18, 19, 20, 21, 25, 26, 27, 28, 29, 30, 31, 32, 33, 34, 35, 36, 37] (by decide +kernel) (by decide +kernel)
set_option maxRecDepth 20000 in
theorem gX3_restoreInto_X2_copyFrom : GoodIn wsX3_restoreInto (wsV RX3 22 RX2 yX2_copyFrom wsX2_copyFrom) := goodIn_app (goodIn_of _ (by decide +kernel)) ggX3_restoreInto_X2_copyFrom
theorem dX3_restoreInto_0 : decode cX3_restoreInto 0 = .ok (.aload_n 0, 1) := by decide +kernel
theorem dX3_restoreInto_1 : decode cX3_restoreInto 1 = .ok (.aload_n 0, 1) := by decide +kernel
theorem dX3_restoreInto_2 : decode cX3_restoreInto 2 = .ok (.getfield 18, 3) := by decide +kernel
theorem dX3_restoreInto_5 : decode cX3_restoreInto 5 = .ok (.ifCond .le 12, 3) := by decide +kernel
theorem dX3_restoreInto_8 : decode cX3_restoreInto 8 = .ok (.aload_n 0, 1) := by decide +kernel
theorem dX3_restoreInto_9 : decode cX3_restoreInto 9 = .ok (.getfield 18, 3) := by decide +kernel
theorem dX3_restoreInto_12 : decode cX3_restoreInto 12 = .ok (.iconst 1, 1) := by decide +kernel
theorem dX3_restoreInto_13 : decode cX3_restoreInto 13 = .ok (.isub, 1) := by decide +kernel
theorem dX3_restoreInto_14 : decode cX3_restoreInto 14 = .ok (.goto 4, 3) := by decide +kernel
theorem dX3_restoreInto_17 : decode cX3_restoreInto 17 = .ok (.iconst 5, 1) := by decide +kernel
theorem dX3_restoreInto_18 : decode cX3_restoreInto 18 = .ok (.putfield 18, 3) := by decide +kernel
theorem dX3_restoreInto_21 : decode cX3_restoreInto 21 = .ok (.aload_n 0, 1) := by decide +kernel
theorem dX3_restoreInto_22 : decode cX3_restoreInto 22 = .ok (.dup, 1) := by decide +kernel
theorem dX3_restoreInto_23 : decode cX3_restoreInto 23 = .ok (.getfield 26, 3) := by decide +kernel
theorem dX3_restoreInto_26 : decode cX3_restoreInto 26 = .ok (.iconst 1, 1) := by decide +kernel
theorem dX3_restoreInto_27 : decode cX3_restoreInto 27 = .ok (.isub, 1) := by decide +kernel
theorem dX3_restoreInto_28 : decode cX3_restoreInto 28 = .ok (.putfield 26, 3) := by decide +kernel
theorem dX3_restoreInto_31 : decode cX3_restoreInto 31 = .ok (.aload_n 0, 1) := by decide +kernel
theorem dX3_restoreInto_32 : decode cX3_restoreInto 32 = .ok (.getfield 11, 3) := by decide +kernel
theorem dX3_restoreInto_35 : decode cX3_restoreInto 35 = .ok (.aload_n 0, 1) := by decide +kernel
theorem dX3_restoreInto_36 : decode cX3_restoreInto 36 = .ok (.getfield 18, 3) := by decide +kernel
theorem dX3_restoreInto_39 : decode cX3_restoreInto 39 = .ok (.aaload, 1) := by decide +kernel
theorem dX3_restoreInto_40 : decode cX3_restoreInto 40 = .ok (.astore_n 2, 1) := by decide +kernel
theorem dX3_restoreInto_41 : decode cX3_restoreInto 41 = .ok (.aload_n 2, 1) := by decide +kernel
theorem dX3_restoreInto_42 : decode cX3_restoreInto 42 = .ok (.ifnull 8, 3) := by decide +kernel
theorem dX3_restoreInto_45 : decode cX3_restoreInto 45 = .ok (.aload_n 1, 1) := by decide +kernel
theorem dX3_restoreInto_46 : decode cX3_restoreInto 46 = .ok (.aload_n 2, 1) := by decide +kernel
theorem dX3_restoreInto_47 : decode cX3_restoreInto 47 = .ok (.invokevirtual 22, 3) := by decide +kernel
theorem dX3_restoreInto_50 : decode cX3_restoreInto 50 = .ok (.return_, 1) := by decide +kernel
