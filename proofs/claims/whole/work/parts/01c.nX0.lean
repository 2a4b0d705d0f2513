theorem dX0_init_0 : decode cX0_init 0 = .ok (.aload_n 0, 1) := by decide +kernel
theorem dX0_init_1 : decode cX0_init 1 = .ok (.invokespecial 3, 3) := by decide +kernel
theorem dX0_init_4 : decode cX0_init 4 = .ok (.return_, 1) := by decide +kernel
theorem dX0_begin_0 : decode cX0_begin 0 = .ok (.aload_n 0, 1) := by decide +kernel
theorem dX0_begin_1 : decode cX0_begin 1 = .ok (.iconst 0, 1) := by decide +kernel
theorem dX0_begin_2 : decode cX0_begin 2 = .ok (.putfield 11, 3) := by decide +kernel
theorem dX0_begin_5 : decode cX0_begin 5 = .ok (.aload_n 0, 1) := by decide +kernel
theorem dX0_begin_6 : decode cX0_begin 6 = .ok (.iconst 1, 1) := by decide +kernel
theorem dX0_begin_7 : decode cX0_begin 7 = .ok (.putfield 15, 3) := by decide +kernel
theorem dX0_begin_10 : decode cX0_begin 10 = .ok (.return_, 1) := by decide +kernel
set_option maxRecDepth 20000 in
theorem ggX0_take_X0_goOn : GoodIn wsX0_take wsX0_goOn := goodIn_r _ [10, 1, 16, 17, 18, 19, 20, 21] (by decide +kernel) (by decide +kernel)
set_option maxRecDepth 20000 in
theorem gX0_take_X0_goOn : GoodIn wsX0_take (wsV RX0 21 RX0 yX0_goOn wsX0_goOn) := goodIn_app (goodIn_of _ (by decide +kernel)) ggX0_take_X0_goOn
set_option maxRecDepth 20000 in
theorem ggX0_take_X0_takeBehindStrength : GoodIn wsX0_take wsX0_takeBehindStrength := goodIn_r _ [14, 15, 5, 6, 7, 8, 9, 10, 1, 16, 17, 18, 19, 20, 21] (by decide +kernel) (by decide +kernel)
set_option maxRecDepth 20000 in
theorem gX0_take_X0_takeBehindStrength : GoodIn wsX0_take (wsV RX0 34 RX0 yX0_takeBehindStrength wsX0_takeBehindStrength) := goodIn_app (goodIn_of _ (by decide +kernel)) ggX0_take_X0_takeBehindStrength
theorem dX0_take_0 : decode cX0_take 0 = .ok (.iload_n 1, 1) := by decide +kernel
theorem dX0_take_1 : decode cX0_take 1 = .ok (.bipush 48, 2) := by decide +kernel
theorem dX0_take_3 : decode cX0_take 3 = .ok (.isub, 1) := by decide +kernel
theorem dX0_take_4 : decode cX0_take 4 = .ok (.istore_n 2, 1) := by decide +kernel
theorem dX0_take_5 : decode cX0_take 5 = .ok (.aload_n 0, 1) := by decide +kernel
theorem dX0_take_6 : decode cX0_take 6 = .ok (.getfield 11, 3) := by decide +kernel
theorem dX0_take_9 : decode cX0_take 9 = .ok (.tableswitch 145 0 3 #[31, 57, 83, 118], 31) := by decide +kernel
theorem dX0_take_40 : decode cX0_take 40 = .ok (.aload_n 0, 1) := by decide +kernel
theorem dX0_take_41 : decode cX0_take 41 = .ok (.iload_n 2, 1) := by decide +kernel
theorem dX0_take_42 : decode cX0_take 42 = .ok (.putfield 18, 3) := by decide +kernel
theorem dX0_take_45 : decode cX0_take 45 = .ok (.aload_n 0, 1) := by decide +kernel
theorem dX0_take_46 : decode cX0_take 46 = .ok (.iconst 1, 1) := by decide +kernel
theorem dX0_take_47 : decode cX0_take 47 = .ok (.iload_n 2, 1) := by decide +kernel
theorem dX0_take_48 : decode cX0_take 48 = .ok (.ifCond .lt 13, 3) := by decide +kernel
theorem dX0_take_51 : decode cX0_take 51 = .ok (.iload_n 2, 1) := by decide +kernel
theorem dX0_take_52 : decode cX0_take 52 = .ok (.bipush 6, 2) := by decide +kernel
theorem dX0_take_54 : decode cX0_take 54 = .ok (.if_icmp .ge 7, 3) := by decide +kernel
theorem dX0_take_57 : decode cX0_take 57 = .ok (.iconst 1, 1) := by decide +kernel
theorem dX0_take_58 : decode cX0_take 58 = .ok (.goto 4, 3) := by decide +kernel
theorem dX0_take_61 : decode cX0_take 61 = .ok (.iconst 0, 1) := by decide +kernel
theorem dX0_take_62 : decode cX0_take 62 = .ok (.invokevirtual 21, 3) := by decide +kernel
theorem dX0_take_65 : decode cX0_take 65 = .ok (.ireturn, 1) := by decide +kernel
theorem dX0_take_66 : decode cX0_take 66 = .ok (.aload_n 0, 1) := by decide +kernel
theorem dX0_take_67 : decode cX0_take 67 = .ok (.iload_n 2, 1) := by decide +kernel
theorem dX0_take_68 : decode cX0_take 68 = .ok (.putfield 25, 3) := by decide +kernel
theorem dX0_take_71 : decode cX0_take 71 = .ok (.aload_n 0, 1) := by decide +kernel
theorem dX0_take_72 : decode cX0_take 72 = .ok (.iconst 2, 1) := by decide +kernel
theorem dX0_take_73 : decode cX0_take 73 = .ok (.iload_n 2, 1) := by decide +kernel
theorem dX0_take_74 : decode cX0_take 74 = .ok (.ifCond .lt 13, 3) := by decide +kernel
theorem dX0_take_77 : decode cX0_take 77 = .ok (.iload_n 2, 1) := by decide +kernel
theorem dX0_take_78 : decode cX0_take 78 = .ok (.bipush 6, 2) := by decide +kernel
theorem dX0_take_80 : decode cX0_take 80 = .ok (.if_icmp .ge 7, 3) := by decide +kernel
theorem dX0_take_83 : decode cX0_take 83 = .ok (.iconst 1, 1) := by decide +kernel
theorem dX0_take_84 : decode cX0_take 84 = .ok (.goto 4, 3) := by decide +kernel
theorem dX0_take_87 : decode cX0_take 87 = .ok (.iconst 0, 1) := by decide +kernel
theorem dX0_take_88 : decode cX0_take 88 = .ok (.invokevirtual 21, 3) := by decide +kernel
theorem dX0_take_91 : decode cX0_take 91 = .ok (.ireturn, 1) := by decide +kernel
theorem dX0_take_92 : decode cX0_take 92 = .ok (.aload_n 0, 1) := by decide +kernel
theorem dX0_take_93 : decode cX0_take 93 = .ok (.iload_n 1, 1) := by decide +kernel
theorem dX0_take_94 : decode cX0_take 94 = .ok (.bipush 97, 2) := by decide +kernel
theorem dX0_take_96 : decode cX0_take 96 = .ok (.isub, 1) := by decide +kernel
theorem dX0_take_97 : decode cX0_take 97 = .ok (.putfield 28, 3) := by decide +kernel
theorem dX0_take_100 : decode cX0_take 100 = .ok (.aload_n 0, 1) := by decide +kernel
theorem dX0_take_101 : decode cX0_take 101 = .ok (.iconst 3, 1) := by decide +kernel
theorem dX0_take_102 : decode cX0_take 102 = .ok (.aload_n 0, 1) := by decide +kernel
theorem dX0_take_103 : decode cX0_take 103 = .ok (.getfield 28, 3) := by decide +kernel
theorem dX0_take_106 : decode cX0_take 106 = .ok (.ifCond .lt 16, 3) := by decide +kernel
theorem dX0_take_109 : decode cX0_take 109 = .ok (.aload_n 0, 1) := by decide +kernel
theorem dX0_take_110 : decode cX0_take 110 = .ok (.getfield 28, 3) := by decide +kernel
theorem dX0_take_113 : decode cX0_take 113 = .ok (.bipush 8, 2) := by decide +kernel
theorem dX0_take_115 : decode cX0_take 115 = .ok (.if_icmp .ge 7, 3) := by decide +kernel
theorem dX0_take_118 : decode cX0_take 118 = .ok (.iconst 1, 1) := by decide +kernel
theorem dX0_take_119 : decode cX0_take 119 = .ok (.goto 4, 3) := by decide +kernel
theorem dX0_take_122 : decode cX0_take 122 = .ok (.iconst 0, 1) := by decide +kernel
theorem dX0_take_123 : decode cX0_take 123 = .ok (.invokevirtual 21, 3) := by decide +kernel
theorem dX0_take_126 : decode cX0_take 126 = .ok (.ireturn, 1) := by decide +kernel
theorem dX0_take_127 : decode cX0_take 127 = .ok (.aload_n 0, 1) := by decide +kernel
theorem dX0_take_128 : decode cX0_take 128 = .ok (.iload_n 2, 1) := by decide +kernel
theorem dX0_take_129 : decode cX0_take 129 = .ok (.putfield 31, 3) := by decide +kernel
theorem dX0_take_132 : decode cX0_take 132 = .ok (.aload_n 0, 1) := by decide +kernel
theorem dX0_take_133 : decode cX0_take 133 = .ok (.iconst 4, 1) := by decide +kernel
theorem dX0_take_134 : decode cX0_take 134 = .ok (.iload_n 2, 1) := by decide +kernel
theorem dX0_take_135 : decode cX0_take 135 = .ok (.iconst 1, 1) := by decide +kernel
theorem dX0_take_136 : decode cX0_take 136 = .ok (.if_icmp .lt 13, 3) := by decide +kernel
theorem dX0_take_139 : decode cX0_take 139 = .ok (.iload_n 2, 1) := by decide +kernel
theorem dX0_take_140 : decode cX0_take 140 = .ok (.bipush 9, 2) := by decide +kernel
theorem dX0_take_142 : decode cX0_take 142 = .ok (.if_icmp .gt 7, 3) := by decide +kernel
theorem dX0_take_145 : decode cX0_take 145 = .ok (.iconst 1, 1) := by decide +kernel
theorem dX0_take_146 : decode cX0_take 146 = .ok (.goto 4, 3) := by decide +kernel
theorem dX0_take_149 : decode cX0_take 149 = .ok (.iconst 0, 1) := by decide +kernel
theorem dX0_take_150 : decode cX0_take 150 = .ok (.invokevirtual 21, 3) := by decide +kernel
theorem dX0_take_153 : decode cX0_take 153 = .ok (.ireturn, 1) := by decide +kernel
theorem dX0_take_154 : decode cX0_take 154 = .ok (.aload_n 0, 1) := by decide +kernel
theorem dX0_take_155 : decode cX0_take 155 = .ok (.iload_n 1, 1) := by decide +kernel
theorem dX0_take_156 : decode cX0_take 156 = .ok (.invokevirtual 34, 3) := by decide +kernel
theorem dX0_take_159 : decode cX0_take 159 = .ok (.ireturn, 1) := by decide +kernel
set_option maxRecDepth 20000 in
theorem ggX0_takeBehindStrength_X0_goOn : GoodIn wsX0_takeBehindStrength wsX0_goOn := goodIn_r _ [7, 8, 9, 10, 11, 12, 13, 14] (by decide +kernel) (by decide +kernel)
set_option maxRecDepth 20000 in
theorem gX0_takeBehindStrength_X0_goOn : GoodIn wsX0_takeBehindStrength (wsV RX0 21 RX0 yX0_goOn wsX0_goOn) := goodIn_app (goodIn_of _ (by decide +kernel)) ggX0_takeBehindStrength_X0_goOn
theorem dX0_takeBehindStrength_0 : decode cX0_takeBehindStrength 0 = .ok (.iload_n 1, 1) := by decide +kernel
theorem dX0_takeBehindStrength_1 : decode cX0_takeBehindStrength 1 = .ok (.bipush 59, 2) := by decide +kernel
theorem dX0_takeBehindStrength_3 : decode cX0_takeBehindStrength 3 = .ok (.if_icmp .ne 33, 3) := by decide +kernel
theorem dX0_takeBehindStrength_6 : decode cX0_takeBehindStrength 6 = .ok (.aload_n 0, 1) := by decide +kernel
theorem dX0_takeBehindStrength_7 : decode cX0_takeBehindStrength 7 = .ok (.dup, 1) := by decide +kernel
theorem dX0_takeBehindStrength_8 : decode cX0_takeBehindStrength 8 = .ok (.getfield 15, 3) := by decide +kernel
theorem dX0_takeBehindStrength_11 : decode cX0_takeBehindStrength 11 = .ok (.iconst 1, 1) := by decide +kernel
theorem dX0_takeBehindStrength_12 : decode cX0_takeBehindStrength 12 = .ok (.iadd, 1) := by decide +kernel
theorem dX0_takeBehindStrength_13 : decode cX0_takeBehindStrength 13 = .ok (.putfield 15, 3) := by decide +kernel
theorem dX0_takeBehindStrength_16 : decode cX0_takeBehindStrength 16 = .ok (.aload_n 0, 1) := by decide +kernel
theorem dX0_takeBehindStrength_17 : decode cX0_takeBehindStrength 17 = .ok (.iconst 0, 1) := by decide +kernel
theorem dX0_takeBehindStrength_18 : decode cX0_takeBehindStrength 18 = .ok (.aload_n 0, 1) := by decide +kernel
theorem dX0_takeBehindStrength_19 : decode cX0_takeBehindStrength 19 = .ok (.getfield 15, 3) := by decide +kernel
theorem dX0_takeBehindStrength_22 : decode cX0_takeBehindStrength 22 = .ok (.bipush 6, 2) := by decide +kernel
theorem dX0_takeBehindStrength_24 : decode cX0_takeBehindStrength 24 = .ok (.if_icmp .gt 7, 3) := by decide +kernel
theorem dX0_takeBehindStrength_27 : decode cX0_takeBehindStrength 27 = .ok (.iconst 1, 1) := by decide +kernel
theorem dX0_takeBehindStrength_28 : decode cX0_takeBehindStrength 28 = .ok (.goto 4, 3) := by decide +kernel
theorem dX0_takeBehindStrength_31 : decode cX0_takeBehindStrength 31 = .ok (.iconst 0, 1) := by decide +kernel
theorem dX0_takeBehindStrength_32 : decode cX0_takeBehindStrength 32 = .ok (.invokevirtual 21, 3) := by decide +kernel
theorem dX0_takeBehindStrength_35 : decode cX0_takeBehindStrength 35 = .ok (.ireturn, 1) := by decide +kernel
theorem dX0_takeBehindStrength_36 : decode cX0_takeBehindStrength 36 = .ok (.iload_n 1, 1) := by decide +kernel
theorem dX0_takeBehindStrength_37 : decode cX0_takeBehindStrength 37 = .ok (.bipush 48, 2) := by decide +kernel
theorem dX0_takeBehindStrength_39 : decode cX0_takeBehindStrength 39 = .ok (.isub, 1) := by decide +kernel
theorem dX0_takeBehindStrength_40 : decode cX0_takeBehindStrength 40 = .ok (.istore_n 2, 1) := by decide +kernel
theorem dX0_takeBehindStrength_41 : decode cX0_takeBehindStrength 41 = .ok (.aload_n 0, 1) := by decide +kernel
theorem dX0_takeBehindStrength_42 : decode cX0_takeBehindStrength 42 = .ok (.bipush 10, 2) := by decide +kernel
theorem dX0_takeBehindStrength_44 : decode cX0_takeBehindStrength 44 = .ok (.aload_n 0, 1) := by decide +kernel
theorem dX0_takeBehindStrength_45 : decode cX0_takeBehindStrength 45 = .ok (.getfield 31, 3) := by decide +kernel
theorem dX0_takeBehindStrength_48 : decode cX0_takeBehindStrength 48 = .ok (.imul, 1) := by decide +kernel
theorem dX0_takeBehindStrength_49 : decode cX0_takeBehindStrength 49 = .ok (.iload_n 2, 1) := by decide +kernel
theorem dX0_takeBehindStrength_50 : decode cX0_takeBehindStrength 50 = .ok (.iadd, 1) := by decide +kernel
theorem dX0_takeBehindStrength_51 : decode cX0_takeBehindStrength 51 = .ok (.putfield 31, 3) := by decide +kernel
theorem dX0_takeBehindStrength_54 : decode cX0_takeBehindStrength 54 = .ok (.aload_n 0, 1) := by decide +kernel
theorem dX0_takeBehindStrength_55 : decode cX0_takeBehindStrength 55 = .ok (.iconst 4, 1) := by decide +kernel
theorem dX0_takeBehindStrength_56 : decode cX0_takeBehindStrength 56 = .ok (.iload_n 2, 1) := by decide +kernel
theorem dX0_takeBehindStrength_57 : decode cX0_takeBehindStrength 57 = .ok (.ifCond .lt 22, 3) := by decide +kernel
theorem dX0_takeBehindStrength_60 : decode cX0_takeBehindStrength 60 = .ok (.iload_n 2, 1) := by decide +kernel
theorem dX0_takeBehindStrength_61 : decode cX0_takeBehindStrength 61 = .ok (.bipush 9, 2) := by decide +kernel
theorem dX0_takeBehindStrength_63 : decode cX0_takeBehindStrength 63 = .ok (.if_icmp .gt 16, 3) := by decide +kernel
theorem dX0_takeBehindStrength_66 : decode cX0_takeBehindStrength 66 = .ok (.aload_n 0, 1) := by decide +kernel
theorem dX0_takeBehindStrength_67 : decode cX0_takeBehindStrength 67 = .ok (.getfield 31, 3) := by decide +kernel
theorem dX0_takeBehindStrength_70 : decode cX0_takeBehindStrength 70 = .ok (.bipush 50, 2) := by decide +kernel
theorem dX0_takeBehindStrength_72 : decode cX0_takeBehindStrength 72 = .ok (.if_icmp .gt 7, 3) := by decide +kernel
theorem dX0_takeBehindStrength_75 : decode cX0_takeBehindStrength 75 = .ok (.iconst 1, 1) := by decide +kernel
theorem dX0_takeBehindStrength_76 : decode cX0_takeBehindStrength 76 = .ok (.goto 4, 3) := by decide +kernel
theorem dX0_takeBehindStrength_79 : decode cX0_takeBehindStrength 79 = .ok (.iconst 0, 1) := by decide +kernel
theorem dX0_takeBehindStrength_80 : decode cX0_takeBehindStrength 80 = .ok (.invokevirtual 21, 3) := by decide +kernel
theorem dX0_takeBehindStrength_83 : decode cX0_takeBehindStrength 83 = .ok (.ireturn, 1) := by decide +kernel
theorem dX0_goOn_0 : decode cX0_goOn 0 = .ok (.aload_n 0, 1) := by decide +kernel
theorem dX0_goOn_1 : decode cX0_goOn 1 = .ok (.iload_n 1, 1) := by decide +kernel
theorem dX0_goOn_2 : decode cX0_goOn 2 = .ok (.putfield 11, 3) := by decide +kernel
theorem dX0_goOn_5 : decode cX0_goOn 5 = .ok (.iload_n 2, 1) := by decide +kernel
theorem dX0_goOn_6 : decode cX0_goOn 6 = .ok (.ireturn, 1) := by decide +kernel
theorem dX0_isBehindStrength_0 : decode cX0_isBehindStrength 0 = .ok (.aload_n 0, 1) := by decide +kernel
theorem dX0_isBehindStrength_1 : decode cX0_isBehindStrength 1 = .ok (.getfield 11, 3) := by decide +kernel
theorem dX0_isBehindStrength_4 : decode cX0_isBehindStrength 4 = .ok (.iconst 4, 1) := by decide +kernel
theorem dX0_isBehindStrength_5 : decode cX0_isBehindStrength 5 = .ok (.if_icmp .ne 7, 3) := by decide +kernel
theorem dX0_isBehindStrength_8 : decode cX0_isBehindStrength 8 = .ok (.iconst 1, 1) := by decide +kernel
theorem dX0_isBehindStrength_9 : decode cX0_isBehindStrength 9 = .ok (.goto 4, 3) := by decide +kernel
theorem dX0_isBehindStrength_12 : decode cX0_isBehindStrength 12 = .ok (.iconst 0, 1) := by decide +kernel
theorem dX0_isBehindStrength_13 : decode cX0_isBehindStrength 13 = .ok (.ireturn, 1) := by decide +kernel
set_option maxRecDepth 20000 in
theorem ggX0_layInto_X2_layBar : GoodIn wsX0_layInto wsX2_layBar := goodIn_r _ [9, 10, 11, 18, 19, 20, 21, 22, 23, 24, 25, 26, 27, 28, 29, 30] (by decide +kernel) (by decide +kernel)
set_option maxRecDepth 20000 in
theorem gX0_layInto_X2_layBar : GoodIn wsX0_layInto (wsV RX0 38 RX2 yX2_layBar wsX2_layBar) := goodIn_app (goodIn_of _ (by decide +kernel)) ggX0_layInto_X2_layBar
theorem dX0_layInto_0 : decode cX0_layInto 0 = .ok (.aload_n 0, 1) := by decide +kernel
theorem dX0_layInto_1 : decode cX0_layInto 1 = .ok (.getfield 25, 3) := by decide +kernel
theorem dX0_layInto_4 : decode cX0_layInto 4 = .ok (.bipush 6, 2) := by decide +kernel
theorem dX0_layInto_6 : decode cX0_layInto 6 = .ok (.imul, 1) := by decide +kernel
theorem dX0_layInto_7 : decode cX0_layInto 7 = .ok (.aload_n 0, 1) := by decide +kernel
theorem dX0_layInto_8 : decode cX0_layInto 8 = .ok (.getfield 18, 3) := by decide +kernel
theorem dX0_layInto_11 : decode cX0_layInto 11 = .ok (.iadd, 1) := by decide +kernel
theorem dX0_layInto_12 : decode cX0_layInto 12 = .ok (.istore_n 2, 1) := by decide +kernel
theorem dX0_layInto_13 : decode cX0_layInto 13 = .ok (.iload_n 2, 1) := by decide +kernel
theorem dX0_layInto_14 : decode cX0_layInto 14 = .ok (.ifCond .lt 22, 3) := by decide +kernel
theorem dX0_layInto_17 : decode cX0_layInto 17 = .ok (.iload_n 2, 1) := by decide +kernel
theorem dX0_layInto_18 : decode cX0_layInto 18 = .ok (.bipush 36, 2) := by decide +kernel
theorem dX0_layInto_20 : decode cX0_layInto 20 = .ok (.if_icmp .ge 16, 3) := by decide +kernel
theorem dX0_layInto_23 : decode cX0_layInto 23 = .ok (.aload_n 1, 1) := by decide +kernel
theorem dX0_layInto_24 : decode cX0_layInto 24 = .ok (.iload_n 2, 1) := by decide +kernel
theorem dX0_layInto_25 : decode cX0_layInto 25 = .ok (.aload_n 0, 1) := by decide +kernel
theorem dX0_layInto_26 : decode cX0_layInto 26 = .ok (.getfield 28, 3) := by decide +kernel
theorem dX0_layInto_29 : decode cX0_layInto 29 = .ok (.aload_n 0, 1) := by decide +kernel
theorem dX0_layInto_30 : decode cX0_layInto 30 = .ok (.getfield 31, 3) := by decide +kernel
theorem dX0_layInto_33 : decode cX0_layInto 33 = .ok (.invokevirtual 38, 3) := by decide +kernel
theorem dX0_layInto_36 : decode cX0_layInto 36 = .ok (.return_, 1) := by decide +kernel
