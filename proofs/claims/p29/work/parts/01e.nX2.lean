set_option maxRecDepth 20000 in
theorem ggX2_init_X2_measureAll : GoodIn wsX2_init wsX2_measureAll := goodIn_r _ [20, 11, 21, 22, 12, 13, 23, 24, 25, 26, 27, 28, 29, 30, 31, 32, 19, 33, 10, 34, 35, 36, 37, 9, 38, 39, 40, 41, 42, 43, 44, 45, 14, 15, 46, 47, 48, 49, 5, 50, 51, 52, 53, 54, 55, 56, 57, 58, 59, 60, 61, 62, 63, 64, 65, 66] (by decide +kernel) (by decide +kernel)
set_option maxRecDepth 20000 in
theorem gX2_init_X2_measureAll : GoodIn wsX2_init (wsV RX2 43 RX2 yX2_measureAll wsX2_measureAll) := goodIn_app (goodIn_of _ (by decide +kernel)) ggX2_init_X2_measureAll
theorem dX2_init_0 : decode cX2_init 0 = .ok (.aload_n 0, 1) := by decide +kernel
theorem dX2_init_1 : decode cX2_init 1 = .ok (.invokespecial 3, 3) := by decide +kernel
theorem dX2_init_4 : decode cX2_init 4 = .ok (.aload_n 0, 1) := by decide +kernel
theorem dX2_init_5 : decode cX2_init 5 = .ok (.bipush 36, 2) := by decide +kernel
theorem dX2_init_7 : decode cX2_init 7 = .ok (.newarray .int, 2) := by decide +kernel
theorem dX2_init_9 : decode cX2_init 9 = .ok (.putfield 9, 3) := by decide +kernel
theorem dX2_init_12 : decode cX2_init 12 = .ok (.aload_n 0, 1) := by decide +kernel
theorem dX2_init_13 : decode cX2_init 13 = .ok (.bipush 36, 2) := by decide +kernel
theorem dX2_init_15 : decode cX2_init 15 = .ok (.newarray .int, 2) := by decide +kernel
theorem dX2_init_17 : decode cX2_init 17 = .ok (.putfield 15, 3) := by decide +kernel
theorem dX2_init_20 : decode cX2_init 20 = .ok (.aload_n 0, 1) := by decide +kernel
theorem dX2_init_21 : decode cX2_init 21 = .ok (.bipush 36, 2) := by decide +kernel
theorem dX2_init_23 : decode cX2_init 23 = .ok (.newarray .boolean, 2) := by decide +kernel
theorem dX2_init_25 : decode cX2_init 25 = .ok (.putfield 18, 3) := by decide +kernel
theorem dX2_init_28 : decode cX2_init 28 = .ok (.aload_n 0, 1) := by decide +kernel
theorem dX2_init_29 : decode cX2_init 29 = .ok (.bipush 36, 2) := by decide +kernel
theorem dX2_init_31 : decode cX2_init 31 = .ok (.newarray .int, 2) := by decide +kernel
theorem dX2_init_33 : decode cX2_init 33 = .ok (.putfield 22, 3) := by decide +kernel
theorem dX2_init_36 : decode cX2_init 36 = .ok (.aload_n 0, 1) := by decide +kernel
theorem dX2_init_37 : decode cX2_init 37 = .ok (.bipush 36, 2) := by decide +kernel
theorem dX2_init_39 : decode cX2_init 39 = .ok (.newarray .int, 2) := by decide +kernel
theorem dX2_init_41 : decode cX2_init 41 = .ok (.putfield 25, 3) := by decide +kernel
theorem dX2_init_44 : decode cX2_init 44 = .ok (.aload_n 0, 1) := by decide +kernel
theorem dX2_init_45 : decode cX2_init 45 = .ok (.iconst 3, 1) := by decide +kernel
theorem dX2_init_46 : decode cX2_init 46 = .ok (.newarray .int, 2) := by decide +kernel
theorem dX2_init_48 : decode cX2_init 48 = .ok (.dup, 1) := by decide +kernel
theorem dX2_init_49 : decode cX2_init 49 = .ok (.iconst 0, 1) := by decide +kernel
theorem dX2_init_50 : decode cX2_init 50 = .ok (.bipush 20, 2) := by decide +kernel
theorem dX2_init_52 : decode cX2_init 52 = .ok (.iastore, 1) := by decide +kernel
theorem dX2_init_53 : decode cX2_init 53 = .ok (.dup, 1) := by decide +kernel
theorem dX2_init_54 : decode cX2_init 54 = .ok (.iconst 1, 1) := by decide +kernel
theorem dX2_init_55 : decode cX2_init 55 = .ok (.iconst 2, 1) := by decide +kernel
theorem dX2_init_56 : decode cX2_init 56 = .ok (.iastore, 1) := by decide +kernel
theorem dX2_init_57 : decode cX2_init 57 = .ok (.dup, 1) := by decide +kernel
theorem dX2_init_58 : decode cX2_init 58 = .ok (.iconst 2, 1) := by decide +kernel
theorem dX2_init_59 : decode cX2_init 59 = .ok (.iconst 3, 1) := by decide +kernel
theorem dX2_init_60 : decode cX2_init 60 = .ok (.iastore, 1) := by decide +kernel
theorem dX2_init_61 : decode cX2_init 61 = .ok (.putfield 28, 3) := by decide +kernel
theorem dX2_init_64 : decode cX2_init 64 = .ok (.aload_n 0, 1) := by decide +kernel
theorem dX2_init_65 : decode cX2_init 65 = .ok (.bipush 36, 2) := by decide +kernel
theorem dX2_init_67 : decode cX2_init 67 = .ok (.newarray .int, 2) := by decide +kernel
theorem dX2_init_69 : decode cX2_init 69 = .ok (.putfield 31, 3) := by decide +kernel
theorem dX2_init_72 : decode cX2_init 72 = .ok (.aload_n 0, 1) := by decide +kernel
theorem dX2_init_73 : decode cX2_init 73 = .ok (.bipush 36, 2) := by decide +kernel
theorem dX2_init_75 : decode cX2_init 75 = .ok (.newarray .int, 2) := by decide +kernel
theorem dX2_init_77 : decode cX2_init 77 = .ok (.putfield 34, 3) := by decide +kernel
theorem dX2_init_80 : decode cX2_init 80 = .ok (.aload_n 0, 1) := by decide +kernel
theorem dX2_init_81 : decode cX2_init 81 = .ok (.bipush 36, 2) := by decide +kernel
theorem dX2_init_83 : decode cX2_init 83 = .ok (.newarray .int, 2) := by decide +kernel
theorem dX2_init_85 : decode cX2_init 85 = .ok (.putfield 37, 3) := by decide +kernel
theorem dX2_init_88 : decode cX2_init 88 = .ok (.aload_n 0, 1) := by decide +kernel
theorem dX2_init_89 : decode cX2_init 89 = .ok (.bipush 36, 2) := by decide +kernel
theorem dX2_init_91 : decode cX2_init 91 = .ok (.newarray .int, 2) := by decide +kernel
theorem dX2_init_93 : decode cX2_init 93 = .ok (.putfield 40, 3) := by decide +kernel
theorem dX2_init_96 : decode cX2_init 96 = .ok (.iconst 0, 1) := by decide +kernel
theorem dX2_init_97 : decode cX2_init 97 = .ok (.istore_n 1, 1) := by decide +kernel
theorem dX2_init_98 : decode cX2_init 98 = .ok (.iload_n 1, 1) := by decide +kernel
theorem dX2_init_99 : decode cX2_init 99 = .ok (.bipush 36, 2) := by decide +kernel
theorem dX2_init_101 : decode cX2_init 101 = .ok (.if_icmp .ge 25, 3) := by decide +kernel
theorem dX2_init_104 : decode cX2_init 104 = .ok (.aload_n 0, 1) := by decide +kernel
theorem dX2_init_105 : decode cX2_init 105 = .ok (.getfield 9, 3) := by decide +kernel
theorem dX2_init_108 : decode cX2_init 108 = .ok (.iload_n 1, 1) := by decide +kernel
theorem dX2_init_109 : decode cX2_init 109 = .ok (.bipush 6, 2) := by decide +kernel
theorem dX2_init_111 : decode cX2_init 111 = .ok (.iastore, 1) := by decide +kernel
theorem dX2_init_112 : decode cX2_init 112 = .ok (.aload_n 0, 1) := by decide +kernel
theorem dX2_init_113 : decode cX2_init 113 = .ok (.getfield 15, 3) := by decide +kernel
theorem dX2_init_116 : decode cX2_init 116 = .ok (.iload_n 1, 1) := by decide +kernel
theorem dX2_init_117 : decode cX2_init 117 = .ok (.bipush 10, 2) := by decide +kernel
theorem dX2_init_119 : decode cX2_init 119 = .ok (.iastore, 1) := by decide +kernel
theorem dX2_init_120 : decode cX2_init 120 = .ok (.iinc 1 1, 3) := by decide +kernel
theorem dX2_init_123 : decode cX2_init 123 = .ok (.goto (-25), 3) := by decide +kernel
theorem dX2_init_126 : decode cX2_init 126 = .ok (.aload_n 0, 1) := by decide +kernel
theorem dX2_init_127 : decode cX2_init 127 = .ok (.invokevirtual 43, 3) := by decide +kernel
theorem dX2_init_130 : decode cX2_init 130 = .ok (.return_, 1) := by decide +kernel
theorem dX2_copyFrom_0 : decode cX2_copyFrom 0 = .ok (.iconst 0, 1) := by decide +kernel
theorem dX2_copyFrom_1 : decode cX2_copyFrom 1 = .ok (.istore_n 2, 1) := by decide +kernel
theorem dX2_copyFrom_2 : decode cX2_copyFrom 2 = .ok (.iload_n 2, 1) := by decide +kernel
theorem dX2_copyFrom_3 : decode cX2_copyFrom 3 = .ok (.bipush 36, 2) := by decide +kernel
theorem dX2_copyFrom_5 : decode cX2_copyFrom 5 = .ok (.if_icmp .ge 117, 3) := by decide +kernel
theorem dX2_copyFrom_8 : decode cX2_copyFrom 8 = .ok (.aload_n 0, 1) := by decide +kernel
theorem dX2_copyFrom_9 : decode cX2_copyFrom 9 = .ok (.getfield 9, 3) := by decide +kernel
theorem dX2_copyFrom_12 : decode cX2_copyFrom 12 = .ok (.iload_n 2, 1) := by decide +kernel
theorem dX2_copyFrom_13 : decode cX2_copyFrom 13 = .ok (.aload_n 1, 1) := by decide +kernel
theorem dX2_copyFrom_14 : decode cX2_copyFrom 14 = .ok (.getfield 9, 3) := by decide +kernel
theorem dX2_copyFrom_17 : decode cX2_copyFrom 17 = .ok (.iload_n 2, 1) := by decide +kernel
theorem dX2_copyFrom_18 : decode cX2_copyFrom 18 = .ok (.iaload, 1) := by decide +kernel
theorem dX2_copyFrom_19 : decode cX2_copyFrom 19 = .ok (.iastore, 1) := by decide +kernel
theorem dX2_copyFrom_20 : decode cX2_copyFrom 20 = .ok (.aload_n 0, 1) := by decide +kernel
theorem dX2_copyFrom_21 : decode cX2_copyFrom 21 = .ok (.getfield 15, 3) := by decide +kernel
theorem dX2_copyFrom_24 : decode cX2_copyFrom 24 = .ok (.iload_n 2, 1) := by decide +kernel
theorem dX2_copyFrom_25 : decode cX2_copyFrom 25 = .ok (.aload_n 1, 1) := by decide +kernel
theorem dX2_copyFrom_26 : decode cX2_copyFrom 26 = .ok (.getfield 15, 3) := by decide +kernel
theorem dX2_copyFrom_29 : decode cX2_copyFrom 29 = .ok (.iload_n 2, 1) := by decide +kernel
theorem dX2_copyFrom_30 : decode cX2_copyFrom 30 = .ok (.iaload, 1) := by decide +kernel
theorem dX2_copyFrom_31 : decode cX2_copyFrom 31 = .ok (.iastore, 1) := by decide +kernel
theorem dX2_copyFrom_32 : decode cX2_copyFrom 32 = .ok (.aload_n 0, 1) := by decide +kernel
theorem dX2_copyFrom_33 : decode cX2_copyFrom 33 = .ok (.getfield 18, 3) := by decide +kernel
theorem dX2_copyFrom_36 : decode cX2_copyFrom 36 = .ok (.iload_n 2, 1) := by decide +kernel
theorem dX2_copyFrom_37 : decode cX2_copyFrom 37 = .ok (.aload_n 1, 1) := by decide +kernel
theorem dX2_copyFrom_38 : decode cX2_copyFrom 38 = .ok (.getfield 18, 3) := by decide +kernel
theorem dX2_copyFrom_41 : decode cX2_copyFrom 41 = .ok (.iload_n 2, 1) := by decide +kernel
theorem dX2_copyFrom_42 : decode cX2_copyFrom 42 = .ok (.baload, 1) := by decide +kernel
theorem dX2_copyFrom_43 : decode cX2_copyFrom 43 = .ok (.bastore, 1) := by decide +kernel
theorem dX2_copyFrom_44 : decode cX2_copyFrom 44 = .ok (.aload_n 0, 1) := by decide +kernel
theorem dX2_copyFrom_45 : decode cX2_copyFrom 45 = .ok (.getfield 22, 3) := by decide +kernel
theorem dX2_copyFrom_48 : decode cX2_copyFrom 48 = .ok (.iload_n 2, 1) := by decide +kernel
theorem dX2_copyFrom_49 : decode cX2_copyFrom 49 = .ok (.aload_n 1, 1) := by decide +kernel
theorem dX2_copyFrom_50 : decode cX2_copyFrom 50 = .ok (.getfield 22, 3) := by decide +kernel
theorem dX2_copyFrom_53 : decode cX2_copyFrom 53 = .ok (.iload_n 2, 1) := by decide +kernel
theorem dX2_copyFrom_54 : decode cX2_copyFrom 54 = .ok (.iaload, 1) := by decide +kernel
theorem dX2_copyFrom_55 : decode cX2_copyFrom 55 = .ok (.iastore, 1) := by decide +kernel
theorem dX2_copyFrom_56 : decode cX2_copyFrom 56 = .ok (.aload_n 0, 1) := by decide +kernel
theorem dX2_copyFrom_57 : decode cX2_copyFrom 57 = .ok (.getfield 25, 3) := by decide +kernel
theorem dX2_copyFrom_60 : decode cX2_copyFrom 60 = .ok (.iload_n 2, 1) := by decide +kernel
theorem dX2_copyFrom_61 : decode cX2_copyFrom 61 = .ok (.aload_n 1, 1) := by decide +kernel
theorem dX2_copyFrom_62 : decode cX2_copyFrom 62 = .ok (.getfield 25, 3) := by decide +kernel
theorem dX2_copyFrom_65 : decode cX2_copyFrom 65 = .ok (.iload_n 2, 1) := by decide +kernel
theorem dX2_copyFrom_66 : decode cX2_copyFrom 66 = .ok (.iaload, 1) := by decide +kernel
theorem dX2_copyFrom_67 : decode cX2_copyFrom 67 = .ok (.iastore, 1) := by decide +kernel
theorem dX2_copyFrom_68 : decode cX2_copyFrom 68 = .ok (.aload_n 0, 1) := by decide +kernel
theorem dX2_copyFrom_69 : decode cX2_copyFrom 69 = .ok (.getfield 31, 3) := by decide +kernel
theorem dX2_copyFrom_72 : decode cX2_copyFrom 72 = .ok (.iload_n 2, 1) := by decide +kernel
theorem dX2_copyFrom_73 : decode cX2_copyFrom 73 = .ok (.aload_n 1, 1) := by decide +kernel
theorem dX2_copyFrom_74 : decode cX2_copyFrom 74 = .ok (.getfield 31, 3) := by decide +kernel
theorem dX2_copyFrom_77 : decode cX2_copyFrom 77 = .ok (.iload_n 2, 1) := by decide +kernel
theorem dX2_copyFrom_78 : decode cX2_copyFrom 78 = .ok (.iaload, 1) := by decide +kernel
theorem dX2_copyFrom_79 : decode cX2_copyFrom 79 = .ok (.iastore, 1) := by decide +kernel
theorem dX2_copyFrom_80 : decode cX2_copyFrom 80 = .ok (.aload_n 0, 1) := by decide +kernel
theorem dX2_copyFrom_81 : decode cX2_copyFrom 81 = .ok (.getfield 34, 3) := by decide +kernel
theorem dX2_copyFrom_84 : decode cX2_copyFrom 84 = .ok (.iload_n 2, 1) := by decide +kernel
theorem dX2_copyFrom_85 : decode cX2_copyFrom 85 = .ok (.aload_n 1, 1) := by decide +kernel
theorem dX2_copyFrom_86 : decode cX2_copyFrom 86 = .ok (.getfield 34, 3) := by decide +kernel
theorem dX2_copyFrom_89 : decode cX2_copyFrom 89 = .ok (.iload_n 2, 1) := by decide +kernel
theorem dX2_copyFrom_90 : decode cX2_copyFrom 90 = .ok (.iaload, 1) := by decide +kernel
theorem dX2_copyFrom_91 : decode cX2_copyFrom 91 = .ok (.iastore, 1) := by decide +kernel
theorem dX2_copyFrom_92 : decode cX2_copyFrom 92 = .ok (.aload_n 0, 1) := by decide +kernel
theorem dX2_copyFrom_93 : decode cX2_copyFrom 93 = .ok (.getfield 37, 3) := by decide +kernel
theorem dX2_copyFrom_96 : decode cX2_copyFrom 96 = .ok (.iload_n 2, 1) := by decide +kernel
theorem dX2_copyFrom_97 : decode cX2_copyFrom 97 = .ok (.aload_n 1, 1) := by decide +kernel
theorem dX2_copyFrom_98 : decode cX2_copyFrom 98 = .ok (.getfield 37, 3) := by decide +kernel
theorem dX2_copyFrom_101 : decode cX2_copyFrom 101 = .ok (.iload_n 2, 1) := by decide +kernel
theorem dX2_copyFrom_102 : decode cX2_copyFrom 102 = .ok (.iaload, 1) := by decide +kernel
theorem dX2_copyFrom_103 : decode cX2_copyFrom 103 = .ok (.iastore, 1) := by decide +kernel
theorem dX2_copyFrom_104 : decode cX2_copyFrom 104 = .ok (.aload_n 0, 1) := by decide +kernel
theorem dX2_copyFrom_105 : decode cX2_copyFrom 105 = .ok (.getfield 40, 3) := by decide +kernel
theorem dX2_copyFrom_108 : decode cX2_copyFrom 108 = .ok (.iload_n 2, 1) := by decide +kernel
theorem dX2_copyFrom_109 : decode cX2_copyFrom 109 = .ok (.aload_n 1, 1) := by decide +kernel
theorem dX2_copyFrom_110 : decode cX2_copyFrom 110 = .ok (.getfield 40, 3) := by decide +kernel
theorem dX2_copyFrom_113 : decode cX2_copyFrom 113 = .ok (.iload_n 2, 1) := by decide +kernel
theorem dX2_copyFrom_114 : decode cX2_copyFrom 114 = .ok (.iaload, 1) := by decide +kernel
theorem dX2_copyFrom_115 : decode cX2_copyFrom 115 = .ok (.iastore, 1) := by decide +kernel
theorem dX2_copyFrom_116 : decode cX2_copyFrom 116 = .ok (.iinc 2 1, 3) := by decide +kernel
theorem dX2_copyFrom_119 : decode cX2_copyFrom 119 = .ok (.goto (-117), 3) := by decide +kernel
theorem dX2_copyFrom_122 : decode cX2_copyFrom 122 = .ok (.iconst 0, 1) := by decide +kernel
theorem dX2_copyFrom_123 : decode cX2_copyFrom 123 = .ok (.istore_n 2, 1) := by decide +kernel
theorem dX2_copyFrom_124 : decode cX2_copyFrom 124 = .ok (.iload_n 2, 1) := by decide +kernel
theorem dX2_copyFrom_125 : decode cX2_copyFrom 125 = .ok (.iconst 3, 1) := by decide +kernel
theorem dX2_copyFrom_126 : decode cX2_copyFrom 126 = .ok (.if_icmp .ge 21, 3) := by decide +kernel
theorem dX2_copyFrom_129 : decode cX2_copyFrom 129 = .ok (.aload_n 0, 1) := by decide +kernel
theorem dX2_copyFrom_130 : decode cX2_copyFrom 130 = .ok (.getfield 28, 3) := by decide +kernel
theorem dX2_copyFrom_133 : decode cX2_copyFrom 133 = .ok (.iload_n 2, 1) := by decide +kernel
theorem dX2_copyFrom_134 : decode cX2_copyFrom 134 = .ok (.aload_n 1, 1) := by decide +kernel
theorem dX2_copyFrom_135 : decode cX2_copyFrom 135 = .ok (.getfield 28, 3) := by decide +kernel
theorem dX2_copyFrom_138 : decode cX2_copyFrom 138 = .ok (.iload_n 2, 1) := by decide +kernel
theorem dX2_copyFrom_139 : decode cX2_copyFrom 139 = .ok (.iaload, 1) := by decide +kernel
theorem dX2_copyFrom_140 : decode cX2_copyFrom 140 = .ok (.iastore, 1) := by decide +kernel
theorem dX2_copyFrom_141 : decode cX2_copyFrom 141 = .ok (.iinc 2 1, 3) := by decide +kernel
theorem dX2_copyFrom_144 : decode cX2_copyFrom 144 = .ok (.goto (-20), 3) := by decide +kernel
theorem dX2_copyFrom_147 : decode cX2_copyFrom 147 = .ok (.aload_n 0, 1) := by decide +kernel
theorem dX2_copyFrom_148 : decode cX2_copyFrom 148 = .ok (.aload_n 1, 1) := by decide +kernel
theorem dX2_copyFrom_149 : decode cX2_copyFrom 149 = .ok (.getfield 46, 3) := by decide +kernel
theorem dX2_copyFrom_152 : decode cX2_copyFrom 152 = .ok (.putfield 46, 3) := by decide +kernel
theorem dX2_copyFrom_155 : decode cX2_copyFrom 155 = .ok (.aload_n 0, 1) := by decide +kernel
theorem dX2_copyFrom_156 : decode cX2_copyFrom 156 = .ok (.aload_n 1, 1) := by decide +kernel
theorem dX2_copyFrom_157 : decode cX2_copyFrom 157 = .ok (.getfield 50, 3) := by decide +kernel
theorem dX2_copyFrom_160 : decode cX2_copyFrom 160 = .ok (.putfield 50, 3) := by decide +kernel
theorem dX2_copyFrom_163 : decode cX2_copyFrom 163 = .ok (.aload_n 0, 1) := by decide +kernel
theorem dX2_copyFrom_164 : decode cX2_copyFrom 164 = .ok (.aload_n 1, 1) := by decide +kernel
theorem dX2_copyFrom_165 : decode cX2_copyFrom 165 = .ok (.getfield 53, 3) := by decide +kernel
theorem dX2_copyFrom_168 : decode cX2_copyFrom 168 = .ok (.putfield 53, 3) := by decide +kernel
theorem dX2_copyFrom_171 : decode cX2_copyFrom 171 = .ok (.return_, 1) := by decide +kernel
set_option maxRecDepth 20000 in
theorem ggX2_measureAll_X4_across : GoodIn wsX2_measureAll wsX4_across := goodIn_r _ [8, 9] (by decide +kernel) (by decide +kernel)
set_option maxRecDepth 20000 in
theorem gX2_measureAll_X4_across_n56 : GoodIn wsX2_measureAll (wsX4_across) := ggX2_measureAll_X4_across
set_option maxRecDepth 20000 in
theorem ggX2_measureAll_X4_down : GoodIn wsX2_measureAll wsX4_down := goodIn_r _ [11, 12] (by decide +kernel) (by decide +kernel)
set_option maxRecDepth 20000 in
theorem gX2_measureAll_X4_down_n60 : GoodIn wsX2_measureAll (wsX4_down) := ggX2_measureAll_X4_down
set_option maxRecDepth 20000 in
theorem ggX2_measureAll_X2_hasBar : GoodIn wsX2_measureAll wsX2_hasBar := goodIn_r _ [17, 18, 43, 44, 45, 46, 47, 48, 49, 50, 51, 52, 53, 54, 55] (by decide +kernel) (by decide +kernel)
set_option maxRecDepth 20000 in
theorem gX2_measureAll_X2_hasBar : GoodIn wsX2_measureAll (wsV RX2 63 RX2 yX2_hasBar wsX2_hasBar) := goodIn_app (goodIn_of _ (by decide +kernel)) ggX2_measureAll_X2_hasBar
set_option maxRecDepth 20000 in
theorem ggX2_measureAll_X2_addBarToStill : GoodIn wsX2_measureAll wsX2_addBarToStill := goodIn_r _ [22, 23, 18, 4, 5, 6, 7, 8, 9, 10, 11, 12, 24, 25, 26, 27, 43, 44, 45, 46, 47, 48, 49, 50, 51, 52, 53, 54, 55] (by decide +kernel) (by decide +kernel)
set_option maxRecDepth 20000 in
theorem gX2_measureAll_X2_addBarToStill : GoodIn wsX2_measureAll (wsV RX2 67 RX2 yX2_addBarToStill wsX2_addBarToStill) := goodIn_app (goodIn_of _ (by decide +kernel)) ggX2_measureAll_X2_addBarToStill
set_option maxRecDepth 20000 in
theorem ggX2_measureAll_X2_measureField : GoodIn wsX2_measureAll wsX2_measureField := goodIn_r _ [31, 32, 4, 33, 5, 34, 35, 36, 16, 37, 1, 38, 6, 7, 8, 9, 10, 11, 12, 39, 40, 41, 42, 43, 44, 45, 46, 47, 48, 49, 50, 51, 52, 53, 54, 55] (by decide +kernel) (by decide +kernel)
set_option maxRecDepth 20000 in
theorem gX2_measureAll_X2_measureField : GoodIn wsX2_measureAll (wsV RX2 71 RX2 yX2_measureField wsX2_measureField) := goodIn_app (goodIn_of _ (by decide +kernel)) ggX2_measureAll_X2_measureField
theorem dX2_measureAll_0 : decode cX2_measureAll 0 = .ok (.aload_n 0, 1) := by decide +kernel
theorem dX2_measureAll_1 : decode cX2_measureAll 1 = .ok (.getfield 28, 3) := by decide +kernel
theorem dX2_measureAll_4 : decode cX2_measureAll 4 = .ok (.iconst 1, 1) := by decide +kernel
theorem dX2_measureAll_5 : decode cX2_measureAll 5 = .ok (.iaload, 1) := by decide +kernel
theorem dX2_measureAll_6 : decode cX2_measureAll 6 = .ok (.aload_n 0, 1) := by decide +kernel
theorem dX2_measureAll_7 : decode cX2_measureAll 7 = .ok (.getfield 46, 3) := by decide +kernel
theorem dX2_measureAll_10 : decode cX2_measureAll 10 = .ok (.imul, 1) := by decide +kernel
theorem dX2_measureAll_11 : decode cX2_measureAll 11 = .ok (.istore_n 1, 1) := by decide +kernel
theorem dX2_measureAll_12 : decode cX2_measureAll 12 = .ok (.iload_n 1, 1) := by decide +kernel
theorem dX2_measureAll_13 : decode cX2_measureAll 13 = .ok (.aload_n 0, 1) := by decide +kernel
theorem dX2_measureAll_14 : decode cX2_measureAll 14 = .ok (.getfield 50, 3) := by decide +kernel
theorem dX2_measureAll_17 : decode cX2_measureAll 17 = .ok (.invokestatic 56, 3) := by decide +kernel
theorem dX2_measureAll_20 : decode cX2_measureAll 20 = .ok (.imul, 1) := by decide +kernel
theorem dX2_measureAll_21 : decode cX2_measureAll 21 = .ok (.istore_n 2, 1) := by decide +kernel
theorem dX2_measureAll_22 : decode cX2_measureAll 22 = .ok (.iload_n 1, 1) := by decide +kernel
theorem dX2_measureAll_23 : decode cX2_measureAll 23 = .ok (.aload_n 0, 1) := by decide +kernel
theorem dX2_measureAll_24 : decode cX2_measureAll 24 = .ok (.getfield 50, 3) := by decide +kernel
theorem dX2_measureAll_27 : decode cX2_measureAll 27 = .ok (.invokestatic 60, 3) := by decide +kernel
theorem dX2_measureAll_30 : decode cX2_measureAll 30 = .ok (.imul, 1) := by decide +kernel
theorem dX2_measureAll_31 : decode cX2_measureAll 31 = .ok (.aload_n 0, 1) := by decide +kernel
theorem dX2_measureAll_32 : decode cX2_measureAll 32 = .ok (.getfield 28, 3) := by decide +kernel
theorem dX2_measureAll_35 : decode cX2_measureAll 35 = .ok (.iconst 0, 1) := by decide +kernel
theorem dX2_measureAll_36 : decode cX2_measureAll 36 = .ok (.iaload, 1) := by decide +kernel
theorem dX2_measureAll_37 : decode cX2_measureAll 37 = .ok (.isub, 1) := by decide +kernel
theorem dX2_measureAll_38 : decode cX2_measureAll 38 = .ok (.istore_n 3, 1) := by decide +kernel
theorem dX2_measureAll_39 : decode cX2_measureAll 39 = .ok (.iconst 0, 1) := by decide +kernel
theorem dX2_measureAll_40 : decode cX2_measureAll 40 = .ok (.istore 4, 2) := by decide +kernel
theorem dX2_measureAll_42 : decode cX2_measureAll 42 = .ok (.iload 4, 2) := by decide +kernel
theorem dX2_measureAll_44 : decode cX2_measureAll 44 = .ok (.bipush 36, 2) := by decide +kernel
theorem dX2_measureAll_46 : decode cX2_measureAll 46 = .ok (.if_icmp .ge 25, 3) := by decide +kernel
theorem dX2_measureAll_49 : decode cX2_measureAll 49 = .ok (.aload_n 0, 1) := by decide +kernel
theorem dX2_measureAll_50 : decode cX2_measureAll 50 = .ok (.getfield 31, 3) := by decide +kernel
theorem dX2_measureAll_53 : decode cX2_measureAll 53 = .ok (.iload 4, 2) := by decide +kernel
theorem dX2_measureAll_55 : decode cX2_measureAll 55 = .ok (.iload_n 2, 1) := by decide +kernel
theorem dX2_measureAll_56 : decode cX2_measureAll 56 = .ok (.iastore, 1) := by decide +kernel
theorem dX2_measureAll_57 : decode cX2_measureAll 57 = .ok (.aload_n 0, 1) := by decide +kernel
theorem dX2_measureAll_58 : decode cX2_measureAll 58 = .ok (.getfield 34, 3) := by decide +kernel
theorem dX2_measureAll_61 : decode cX2_measureAll 61 = .ok (.iload 4, 2) := by decide +kernel
theorem dX2_measureAll_63 : decode cX2_measureAll 63 = .ok (.iload_n 3, 1) := by decide +kernel
theorem dX2_measureAll_64 : decode cX2_measureAll 64 = .ok (.iastore, 1) := by decide +kernel
theorem dX2_measureAll_65 : decode cX2_measureAll 65 = .ok (.iinc 4 1, 3) := by decide +kernel
theorem dX2_measureAll_68 : decode cX2_measureAll 68 = .ok (.goto (-26), 3) := by decide +kernel
theorem dX2_measureAll_71 : decode cX2_measureAll 71 = .ok (.iconst 0, 1) := by decide +kernel
theorem dX2_measureAll_72 : decode cX2_measureAll 72 = .ok (.istore 4, 2) := by decide +kernel
theorem dX2_measureAll_74 : decode cX2_measureAll 74 = .ok (.iload 4, 2) := by decide +kernel
theorem dX2_measureAll_76 : decode cX2_measureAll 76 = .ok (.bipush 36, 2) := by decide +kernel
theorem dX2_measureAll_78 : decode cX2_measureAll 78 = .ok (.if_icmp .ge 24, 3) := by decide +kernel
theorem dX2_measureAll_81 : decode cX2_measureAll 81 = .ok (.aload_n 0, 1) := by decide +kernel
theorem dX2_measureAll_82 : decode cX2_measureAll 82 = .ok (.iload 4, 2) := by decide +kernel
theorem dX2_measureAll_84 : decode cX2_measureAll 84 = .ok (.invokevirtual 63, 3) := by decide +kernel
theorem dX2_measureAll_87 : decode cX2_measureAll 87 = .ok (.ifCond .eq 9, 3) := by decide +kernel
theorem dX2_measureAll_90 : decode cX2_measureAll 90 = .ok (.aload_n 0, 1) := by decide +kernel
theorem dX2_measureAll_91 : decode cX2_measureAll 91 = .ok (.iload 4, 2) := by decide +kernel
theorem dX2_measureAll_93 : decode cX2_measureAll 93 = .ok (.invokevirtual 67, 3) := by decide +kernel
theorem dX2_measureAll_96 : decode cX2_measureAll 96 = .ok (.iinc 4 1, 3) := by decide +kernel
theorem dX2_measureAll_99 : decode cX2_measureAll 99 = .ok (.goto (-25), 3) := by decide +kernel
theorem dX2_measureAll_102 : decode cX2_measureAll 102 = .ok (.aload_n 0, 1) := by decide +kernel
theorem dX2_measureAll_103 : decode cX2_measureAll 103 = .ok (.invokevirtual 71, 3) := by decide +kernel
theorem dX2_measureAll_106 : decode cX2_measureAll 106 = .ok (.return_, 1) := by decide +kernel
set_option maxRecDepth 20000 in
theorem ggX2_addBarToStill_X4_across : GoodIn wsX2_addBarToStill wsX4_across := goodIn_r _ [7, 8] (by decide +kernel) (by decide +kernel)
set_option maxRecDepth 20000 in
theorem gX2_addBarToStill_X4_across_n56 : GoodIn wsX2_addBarToStill (wsX4_across) := ggX2_addBarToStill_X4_across
set_option maxRecDepth 20000 in
theorem ggX2_addBarToStill_X4_down : GoodIn wsX2_addBarToStill wsX4_down := goodIn_r _ [10, 11] (by decide +kernel) (by decide +kernel)
set_option maxRecDepth 20000 in
theorem gX2_addBarToStill_X4_down_n60 : GoodIn wsX2_addBarToStill (wsX4_down) := ggX2_addBarToStill_X4_down
set_option maxRecDepth 20000 in
theorem ggX2_addBarToStill_X4_pull : GoodIn wsX2_addBarToStill wsX4_pull := goodIn_r _ [13, 14, 5, 6, 7, 8, 15, 9, 10, 11] (by decide +kernel) (by decide +kernel)
set_option maxRecDepth 20000 in
theorem gX2_addBarToStill_X4_pull_n74 : GoodIn wsX2_addBarToStill (wsX4_pull) := ggX2_addBarToStill_X4_pull
theorem dX2_addBarToStill_0 : decode cX2_addBarToStill 0 = .ok (.aload_n 0, 1) := by decide +kernel
theorem dX2_addBarToStill_1 : decode cX2_addBarToStill 1 = .ok (.getfield 22, 3) := by decide +kernel
theorem dX2_addBarToStill_4 : decode cX2_addBarToStill 4 = .ok (.iload_n 1, 1) := by decide +kernel
theorem dX2_addBarToStill_5 : decode cX2_addBarToStill 5 = .ok (.iaload, 1) := by decide +kernel
theorem dX2_addBarToStill_6 : decode cX2_addBarToStill 6 = .ok (.invokestatic 56, 3) := by decide +kernel
theorem dX2_addBarToStill_9 : decode cX2_addBarToStill 9 = .ok (.istore_n 2, 1) := by decide +kernel
theorem dX2_addBarToStill_10 : decode cX2_addBarToStill 10 = .ok (.aload_n 0, 1) := by decide +kernel
theorem dX2_addBarToStill_11 : decode cX2_addBarToStill 11 = .ok (.getfield 22, 3) := by decide +kernel
theorem dX2_addBarToStill_14 : decode cX2_addBarToStill 14 = .ok (.iload_n 1, 1) := by decide +kernel
theorem dX2_addBarToStill_15 : decode cX2_addBarToStill 15 = .ok (.iaload, 1) := by decide +kernel
theorem dX2_addBarToStill_16 : decode cX2_addBarToStill 16 = .ok (.invokestatic 60, 3) := by decide +kernel
theorem dX2_addBarToStill_19 : decode cX2_addBarToStill 19 = .ok (.istore_n 3, 1) := by decide +kernel
theorem dX2_addBarToStill_20 : decode cX2_addBarToStill 20 = .ok (.iconst 0, 1) := by decide +kernel
theorem dX2_addBarToStill_21 : decode cX2_addBarToStill 21 = .ok (.istore 4, 2) := by decide +kernel
theorem dX2_addBarToStill_23 : decode cX2_addBarToStill 23 = .ok (.iload 4, 2) := by decide +kernel
theorem dX2_addBarToStill_25 : decode cX2_addBarToStill 25 = .ok (.bipush 36, 2) := by decide +kernel
theorem dX2_addBarToStill_27 : decode cX2_addBarToStill 27 = .ok (.if_icmp .ge 57, 3) := by decide +kernel
theorem dX2_addBarToStill_30 : decode cX2_addBarToStill 30 = .ok (.iload_n 1, 1) := by decide +kernel
theorem dX2_addBarToStill_31 : decode cX2_addBarToStill 31 = .ok (.aload_n 0, 1) := by decide +kernel
theorem dX2_addBarToStill_32 : decode cX2_addBarToStill 32 = .ok (.getfield 22, 3) := by decide +kernel
theorem dX2_addBarToStill_35 : decode cX2_addBarToStill 35 = .ok (.iload_n 1, 1) := by decide +kernel
theorem dX2_addBarToStill_36 : decode cX2_addBarToStill 36 = .ok (.iaload, 1) := by decide +kernel
theorem dX2_addBarToStill_37 : decode cX2_addBarToStill 37 = .ok (.aload_n 0, 1) := by decide +kernel
theorem dX2_addBarToStill_38 : decode cX2_addBarToStill 38 = .ok (.getfield 25, 3) := by decide +kernel
theorem dX2_addBarToStill_41 : decode cX2_addBarToStill 41 = .ok (.iload_n 1, 1) := by decide +kernel
theorem dX2_addBarToStill_42 : decode cX2_addBarToStill 42 = .ok (.iaload, 1) := by decide +kernel
theorem dX2_addBarToStill_43 : decode cX2_addBarToStill 43 = .ok (.iload 4, 2) := by decide +kernel
theorem dX2_addBarToStill_45 : decode cX2_addBarToStill 45 = .ok (.invokestatic 74, 3) := by decide +kernel
theorem dX2_addBarToStill_48 : decode cX2_addBarToStill 48 = .ok (.istore 5, 2) := by decide +kernel
theorem dX2_addBarToStill_50 : decode cX2_addBarToStill 50 = .ok (.aload_n 0, 1) := by decide +kernel
theorem dX2_addBarToStill_51 : decode cX2_addBarToStill 51 = .ok (.getfield 31, 3) := by decide +kernel
theorem dX2_addBarToStill_54 : decode cX2_addBarToStill 54 = .ok (.iload 4, 2) := by decide +kernel
theorem dX2_addBarToStill_56 : decode cX2_addBarToStill 56 = .ok (.dup2, 1) := by decide +kernel
theorem dX2_addBarToStill_57 : decode cX2_addBarToStill 57 = .ok (.iaload, 1) := by decide +kernel
theorem dX2_addBarToStill_58 : decode cX2_addBarToStill 58 = .ok (.iload 5, 2) := by decide +kernel
theorem dX2_addBarToStill_60 : decode cX2_addBarToStill 60 = .ok (.iload_n 2, 1) := by decide +kernel
theorem dX2_addBarToStill_61 : decode cX2_addBarToStill 61 = .ok (.imul, 1) := by decide +kernel
theorem dX2_addBarToStill_62 : decode cX2_addBarToStill 62 = .ok (.iadd, 1) := by decide +kernel
theorem dX2_addBarToStill_63 : decode cX2_addBarToStill 63 = .ok (.iastore, 1) := by decide +kernel
theorem dX2_addBarToStill_64 : decode cX2_addBarToStill 64 = .ok (.aload_n 0, 1) := by decide +kernel
theorem dX2_addBarToStill_65 : decode cX2_addBarToStill 65 = .ok (.getfield 34, 3) := by decide +kernel
theorem dX2_addBarToStill_68 : decode cX2_addBarToStill 68 = .ok (.iload 4, 2) := by decide +kernel
theorem dX2_addBarToStill_70 : decode cX2_addBarToStill 70 = .ok (.dup2, 1) := by decide +kernel
theorem dX2_addBarToStill_71 : decode cX2_addBarToStill 71 = .ok (.iaload, 1) := by decide +kernel
theorem dX2_addBarToStill_72 : decode cX2_addBarToStill 72 = .ok (.iload 5, 2) := by decide +kernel
theorem dX2_addBarToStill_74 : decode cX2_addBarToStill 74 = .ok (.iload_n 3, 1) := by decide +kernel
theorem dX2_addBarToStill_75 : decode cX2_addBarToStill 75 = .ok (.imul, 1) := by decide +kernel
theorem dX2_addBarToStill_76 : decode cX2_addBarToStill 76 = .ok (.iadd, 1) := by decide +kernel
theorem dX2_addBarToStill_77 : decode cX2_addBarToStill 77 = .ok (.iastore, 1) := by decide +kernel
theorem dX2_addBarToStill_78 : decode cX2_addBarToStill 78 = .ok (.iinc 4 1, 3) := by decide +kernel
theorem dX2_addBarToStill_81 : decode cX2_addBarToStill 81 = .ok (.goto (-58), 3) := by decide +kernel
theorem dX2_addBarToStill_84 : decode cX2_addBarToStill 84 = .ok (.return_, 1) := by decide +kernel
set_option maxRecDepth 20000 in
theorem ggX2_measureField_X2_addNeedleToNeighbours : GoodIn wsX2_measureField wsX2_addNeedleToNeighbours := goodIn_r _ [9, 10, 11, 12, 13, 14, 15, 16, 17, 18, 19, 20, 21, 8, 22, 1, 3, 23, 24, 25, 26, 27, 28, 29, 30, 31, 32, 33, 34, 35] (by decide +kernel) (by decide +kernel)
set_option maxRecDepth 20000 in
theorem gX2_measureField_X2_addNeedleToNeighbours : GoodIn wsX2_measureField (wsV RX2 78 RX2 yX2_addNeedleToNeighbours wsX2_addNeedleToNeighbours) := goodIn_app (goodIn_of _ (by decide +kernel)) ggX2_measureField_X2_addNeedleToNeighbours
theorem dX2_measureField_0 : decode cX2_measureField 0 = .ok (.iconst 0, 1) := by decide +kernel
theorem dX2_measureField_1 : decode cX2_measureField 1 = .ok (.istore_n 1, 1) := by decide +kernel
theorem dX2_measureField_2 : decode cX2_measureField 2 = .ok (.iload_n 1, 1) := by decide +kernel
theorem dX2_measureField_3 : decode cX2_measureField 3 = .ok (.bipush 36, 2) := by decide +kernel
theorem dX2_measureField_5 : decode cX2_measureField 5 = .ok (.if_icmp .ge 33, 3) := by decide +kernel
theorem dX2_measureField_8 : decode cX2_measureField 8 = .ok (.aload_n 0, 1) := by decide +kernel
theorem dX2_measureField_9 : decode cX2_measureField 9 = .ok (.getfield 37, 3) := by decide +kernel
theorem dX2_measureField_12 : decode cX2_measureField 12 = .ok (.iload_n 1, 1) := by decide +kernel
theorem dX2_measureField_13 : decode cX2_measureField 13 = .ok (.aload_n 0, 1) := by decide +kernel
theorem dX2_measureField_14 : decode cX2_measureField 14 = .ok (.getfield 31, 3) := by decide +kernel
theorem dX2_measureField_17 : decode cX2_measureField 17 = .ok (.iload_n 1, 1) := by decide +kernel
theorem dX2_measureField_18 : decode cX2_measureField 18 = .ok (.iaload, 1) := by decide +kernel
theorem dX2_measureField_19 : decode cX2_measureField 19 = .ok (.iastore, 1) := by decide +kernel
theorem dX2_measureField_20 : decode cX2_measureField 20 = .ok (.aload_n 0, 1) := by decide +kernel
theorem dX2_measureField_21 : decode cX2_measureField 21 = .ok (.getfield 40, 3) := by decide +kernel
theorem dX2_measureField_24 : decode cX2_measureField 24 = .ok (.iload_n 1, 1) := by decide +kernel
theorem dX2_measureField_25 : decode cX2_measureField 25 = .ok (.aload_n 0, 1) := by decide +kernel
theorem dX2_measureField_26 : decode cX2_measureField 26 = .ok (.getfield 34, 3) := by decide +kernel
theorem dX2_measureField_29 : decode cX2_measureField 29 = .ok (.iload_n 1, 1) := by decide +kernel
theorem dX2_measureField_30 : decode cX2_measureField 30 = .ok (.iaload, 1) := by decide +kernel
theorem dX2_measureField_31 : decode cX2_measureField 31 = .ok (.iastore, 1) := by decide +kernel
theorem dX2_measureField_32 : decode cX2_measureField 32 = .ok (.iinc 1 1, 3) := by decide +kernel
theorem dX2_measureField_35 : decode cX2_measureField 35 = .ok (.goto (-33), 3) := by decide +kernel
theorem dX2_measureField_38 : decode cX2_measureField 38 = .ok (.iconst 0, 1) := by decide +kernel
theorem dX2_measureField_39 : decode cX2_measureField 39 = .ok (.istore_n 1, 1) := by decide +kernel
theorem dX2_measureField_40 : decode cX2_measureField 40 = .ok (.iload_n 1, 1) := by decide +kernel
theorem dX2_measureField_41 : decode cX2_measureField 41 = .ok (.bipush 36, 2) := by decide +kernel
theorem dX2_measureField_43 : decode cX2_measureField 43 = .ok (.if_icmp .ge 14, 3) := by decide +kernel
theorem dX2_measureField_46 : decode cX2_measureField 46 = .ok (.aload_n 0, 1) := by decide +kernel
theorem dX2_measureField_47 : decode cX2_measureField 47 = .ok (.iload_n 1, 1) := by decide +kernel
theorem dX2_measureField_48 : decode cX2_measureField 48 = .ok (.invokevirtual 78, 3) := by decide +kernel
theorem dX2_measureField_51 : decode cX2_measureField 51 = .ok (.iinc 1 1, 3) := by decide +kernel
theorem dX2_measureField_54 : decode cX2_measureField 54 = .ok (.goto (-14), 3) := by decide +kernel
theorem dX2_measureField_57 : decode cX2_measureField 57 = .ok (.return_, 1) := by decide +kernel
set_option maxRecDepth 20000 in
theorem ggX2_addNeedleToNeighbours_X4_across : GoodIn wsX2_addNeedleToNeighbours wsX4_across := goodIn_r _ [5, 6] (by decide +kernel) (by decide +kernel)
set_option maxRecDepth 20000 in
theorem gX2_addNeedleToNeighbours_X4_across_n56 : GoodIn wsX2_addNeedleToNeighbours (wsX4_across) := ggX2_addNeedleToNeighbours_X4_across
set_option maxRecDepth 20000 in
theorem ggX2_addNeedleToNeighbours_X4_down : GoodIn wsX2_addNeedleToNeighbours wsX4_down := goodIn_r _ [8, 9] (by decide +kernel) (by decide +kernel)
set_option maxRecDepth 20000 in
theorem gX2_addNeedleToNeighbours_X4_down_n60 : GoodIn wsX2_addNeedleToNeighbours (wsX4_down) := ggX2_addNeedleToNeighbours_X4_down
set_option maxRecDepth 20000 in
theorem ggX2_addNeedleToNeighbours_X2_addToField : GoodIn wsX2_addNeedleToNeighbours wsX2_addToField := goodIn_r _ [14, 15, 16, 17, 18, 19, 20, 21, 22, 23, 24, 25, 26, 27, 28, 29] (by decide +kernel) (by decide +kernel)
set_option maxRecDepth 20000 in
theorem gX2_addNeedleToNeighbours_X2_addToField : GoodIn wsX2_addNeedleToNeighbours (wsV RX2 81 RX2 yX2_addToField wsX2_addToField) := goodIn_app (goodIn_of _ (by decide +kernel)) ggX2_addNeedleToNeighbours_X2_addToField
theorem dX2_addNeedleToNeighbours_0 : decode cX2_addNeedleToNeighbours 0 = .ok (.iload_n 1, 1) := by decide +kernel
theorem dX2_addNeedleToNeighbours_1 : decode cX2_addNeedleToNeighbours 1 = .ok (.bipush 6, 2) := by decide +kernel
theorem dX2_addNeedleToNeighbours_3 : decode cX2_addNeedleToNeighbours 3 = .ok (.irem, 1) := by decide +kernel
theorem dX2_addNeedleToNeighbours_4 : decode cX2_addNeedleToNeighbours 4 = .ok (.istore_n 2, 1) := by decide +kernel
theorem dX2_addNeedleToNeighbours_5 : decode cX2_addNeedleToNeighbours 5 = .ok (.aload_n 0, 1) := by decide +kernel
theorem dX2_addNeedleToNeighbours_6 : decode cX2_addNeedleToNeighbours 6 = .ok (.getfield 28, 3) := by decide +kernel
theorem dX2_addNeedleToNeighbours_9 : decode cX2_addNeedleToNeighbours 9 = .ok (.iconst 2, 1) := by decide +kernel
theorem dX2_addNeedleToNeighbours_10 : decode cX2_addNeedleToNeighbours 10 = .ok (.iaload, 1) := by decide +kernel
theorem dX2_addNeedleToNeighbours_11 : decode cX2_addNeedleToNeighbours 11 = .ok (.aload_n 0, 1) := by decide +kernel
theorem dX2_addNeedleToNeighbours_12 : decode cX2_addNeedleToNeighbours 12 = .ok (.getfield 9, 3) := by decide +kernel
theorem dX2_addNeedleToNeighbours_15 : decode cX2_addNeedleToNeighbours 15 = .ok (.iload_n 1, 1) := by decide +kernel
theorem dX2_addNeedleToNeighbours_16 : decode cX2_addNeedleToNeighbours 16 = .ok (.iaload, 1) := by decide +kernel
theorem dX2_addNeedleToNeighbours_17 : decode cX2_addNeedleToNeighbours 17 = .ok (.invokestatic 56, 3) := by decide +kernel
theorem dX2_addNeedleToNeighbours_20 : decode cX2_addNeedleToNeighbours 20 = .ok (.imul, 1) := by decide +kernel
theorem dX2_addNeedleToNeighbours_21 : decode cX2_addNeedleToNeighbours 21 = .ok (.istore_n 3, 1) := by decide +kernel
theorem dX2_addNeedleToNeighbours_22 : decode cX2_addNeedleToNeighbours 22 = .ok (.aload_n 0, 1) := by decide +kernel
theorem dX2_addNeedleToNeighbours_23 : decode cX2_addNeedleToNeighbours 23 = .ok (.getfield 28, 3) := by decide +kernel
theorem dX2_addNeedleToNeighbours_26 : decode cX2_addNeedleToNeighbours 26 = .ok (.iconst 2, 1) := by decide +kernel
theorem dX2_addNeedleToNeighbours_27 : decode cX2_addNeedleToNeighbours 27 = .ok (.iaload, 1) := by decide +kernel
theorem dX2_addNeedleToNeighbours_28 : decode cX2_addNeedleToNeighbours 28 = .ok (.aload_n 0, 1) := by decide +kernel
theorem dX2_addNeedleToNeighbours_29 : decode cX2_addNeedleToNeighbours 29 = .ok (.getfield 9, 3) := by decide +kernel
theorem dX2_addNeedleToNeighbours_32 : decode cX2_addNeedleToNeighbours 32 = .ok (.iload_n 1, 1) := by decide +kernel
theorem dX2_addNeedleToNeighbours_33 : decode cX2_addNeedleToNeighbours 33 = .ok (.iaload, 1) := by decide +kernel
theorem dX2_addNeedleToNeighbours_34 : decode cX2_addNeedleToNeighbours 34 = .ok (.invokestatic 60, 3) := by decide +kernel
theorem dX2_addNeedleToNeighbours_37 : decode cX2_addNeedleToNeighbours 37 = .ok (.imul, 1) := by decide +kernel
theorem dX2_addNeedleToNeighbours_38 : decode cX2_addNeedleToNeighbours 38 = .ok (.istore 4, 2) := by decide +kernel
theorem dX2_addNeedleToNeighbours_40 : decode cX2_addNeedleToNeighbours 40 = .ok (.iload_n 1, 1) := by decide +kernel
theorem dX2_addNeedleToNeighbours_41 : decode cX2_addNeedleToNeighbours 41 = .ok (.bipush 6, 2) := by decide +kernel
theorem dX2_addNeedleToNeighbours_43 : decode cX2_addNeedleToNeighbours 43 = .ok (.if_icmp .lt 14, 3) := by decide +kernel
theorem dX2_addNeedleToNeighbours_46 : decode cX2_addNeedleToNeighbours 46 = .ok (.aload_n 0, 1) := by decide +kernel
theorem dX2_addNeedleToNeighbours_47 : decode cX2_addNeedleToNeighbours 47 = .ok (.iload_n 1, 1) := by decide +kernel
theorem dX2_addNeedleToNeighbours_48 : decode cX2_addNeedleToNeighbours 48 = .ok (.bipush 6, 2) := by decide +kernel
theorem dX2_addNeedleToNeighbours_50 : decode cX2_addNeedleToNeighbours 50 = .ok (.isub, 1) := by decide +kernel
theorem dX2_addNeedleToNeighbours_51 : decode cX2_addNeedleToNeighbours 51 = .ok (.iload_n 3, 1) := by decide +kernel
theorem dX2_addNeedleToNeighbours_52 : decode cX2_addNeedleToNeighbours 52 = .ok (.iload 4, 2) := by decide +kernel
theorem dX2_addNeedleToNeighbours_54 : decode cX2_addNeedleToNeighbours 54 = .ok (.invokevirtual 81, 3) := by decide +kernel
theorem dX2_addNeedleToNeighbours_57 : decode cX2_addNeedleToNeighbours 57 = .ok (.iload_n 1, 1) := by decide +kernel
theorem dX2_addNeedleToNeighbours_58 : decode cX2_addNeedleToNeighbours 58 = .ok (.bipush 30, 2) := by decide +kernel
theorem dX2_addNeedleToNeighbours_60 : decode cX2_addNeedleToNeighbours 60 = .ok (.if_icmp .ge 14, 3) := by decide +kernel
theorem dX2_addNeedleToNeighbours_63 : decode cX2_addNeedleToNeighbours 63 = .ok (.aload_n 0, 1) := by decide +kernel
theorem dX2_addNeedleToNeighbours_64 : decode cX2_addNeedleToNeighbours 64 = .ok (.iload_n 1, 1) := by decide +kernel
theorem dX2_addNeedleToNeighbours_65 : decode cX2_addNeedleToNeighbours 65 = .ok (.bipush 6, 2) := by decide +kernel
theorem dX2_addNeedleToNeighbours_67 : decode cX2_addNeedleToNeighbours 67 = .ok (.iadd, 1) := by decide +kernel
theorem dX2_addNeedleToNeighbours_68 : decode cX2_addNeedleToNeighbours 68 = .ok (.iload_n 3, 1) := by decide +kernel
theorem dX2_addNeedleToNeighbours_69 : decode cX2_addNeedleToNeighbours 69 = .ok (.iload 4, 2) := by decide +kernel
theorem dX2_addNeedleToNeighbours_71 : decode cX2_addNeedleToNeighbours 71 = .ok (.invokevirtual 81, 3) := by decide +kernel
theorem dX2_addNeedleToNeighbours_74 : decode cX2_addNeedleToNeighbours 74 = .ok (.iload_n 2, 1) := by decide +kernel
theorem dX2_addNeedleToNeighbours_75 : decode cX2_addNeedleToNeighbours 75 = .ok (.ifCond .le 13, 3) := by decide +kernel
theorem dX2_addNeedleToNeighbours_78 : decode cX2_addNeedleToNeighbours 78 = .ok (.aload_n 0, 1) := by decide +kernel
theorem dX2_addNeedleToNeighbours_79 : decode cX2_addNeedleToNeighbours 79 = .ok (.iload_n 1, 1) := by decide +kernel
theorem dX2_addNeedleToNeighbours_80 : decode cX2_addNeedleToNeighbours 80 = .ok (.iconst 1, 1) := by decide +kernel
theorem dX2_addNeedleToNeighbours_81 : decode cX2_addNeedleToNeighbours 81 = .ok (.isub, 1) := by decide +kernel
theorem dX2_addNeedleToNeighbours_82 : decode cX2_addNeedleToNeighbours 82 = .ok (.iload_n 3, 1) := by decide +kernel
theorem dX2_addNeedleToNeighbours_83 : decode cX2_addNeedleToNeighbours 83 = .ok (.iload 4, 2) := by decide +kernel
theorem dX2_addNeedleToNeighbours_85 : decode cX2_addNeedleToNeighbours 85 = .ok (.invokevirtual 81, 3) := by decide +kernel
theorem dX2_addNeedleToNeighbours_88 : decode cX2_addNeedleToNeighbours 88 = .ok (.iload_n 2, 1) := by decide +kernel
theorem dX2_addNeedleToNeighbours_89 : decode cX2_addNeedleToNeighbours 89 = .ok (.iconst 5, 1) := by decide +kernel
theorem dX2_addNeedleToNeighbours_90 : decode cX2_addNeedleToNeighbours 90 = .ok (.if_icmp .ge 13, 3) := by decide +kernel
theorem dX2_addNeedleToNeighbours_93 : decode cX2_addNeedleToNeighbours 93 = .ok (.aload_n 0, 1) := by decide +kernel
theorem dX2_addNeedleToNeighbours_94 : decode cX2_addNeedleToNeighbours 94 = .ok (.iload_n 1, 1) := by decide +kernel
theorem dX2_addNeedleToNeighbours_95 : decode cX2_addNeedleToNeighbours 95 = .ok (.iconst 1, 1) := by decide +kernel
theorem dX2_addNeedleToNeighbours_96 : decode cX2_addNeedleToNeighbours 96 = .ok (.iadd, 1) := by decide +kernel
theorem dX2_addNeedleToNeighbours_97 : decode cX2_addNeedleToNeighbours 97 = .ok (.iload_n 3, 1) := by decide +kernel
theorem dX2_addNeedleToNeighbours_98 : decode cX2_addNeedleToNeighbours 98 = .ok (.iload 4, 2) := by decide +kernel
theorem dX2_addNeedleToNeighbours_100 : decode cX2_addNeedleToNeighbours 100 = .ok (.invokevirtual 81, 3) := by decide +kernel
theorem dX2_addNeedleToNeighbours_103 : decode cX2_addNeedleToNeighbours 103 = .ok (.return_, 1) := by decide +kernel
theorem dX2_addToField_0 : decode cX2_addToField 0 = .ok (.aload_n 0, 1) := by decide +kernel
theorem dX2_addToField_1 : decode cX2_addToField 1 = .ok (.getfield 37, 3) := by decide +kernel
