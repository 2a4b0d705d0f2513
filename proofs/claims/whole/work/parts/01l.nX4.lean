theorem dX4_pull_3 : decode cX4_pull 3 = .ok (.irem, 1) := by decide +kernel
theorem dX4_pull_4 : decode cX4_pull 4 = .ok (.iload_n 0, 1) := by decide +kernel
theorem dX4_pull_5 : decode cX4_pull 5 = .ok (.bipush 6, 2) := by decide +kernel
theorem dX4_pull_7 : decode cX4_pull 7 = .ok (.irem, 1) := by decide +kernel
theorem dX4_pull_8 : decode cX4_pull 8 = .ok (.isub, 1) := by decide +kernel
theorem dX4_pull_9 : decode cX4_pull 9 = .ok (.istore 4, 2) := by decide +kernel
theorem dX4_pull_11 : decode cX4_pull 11 = .ok (.iload_n 3, 1) := by decide +kernel
theorem dX4_pull_12 : decode cX4_pull 12 = .ok (.bipush 6, 2) := by decide +kernel
theorem dX4_pull_14 : decode cX4_pull 14 = .ok (.idiv, 1) := by decide +kernel
theorem dX4_pull_15 : decode cX4_pull 15 = .ok (.iload_n 0, 1) := by decide +kernel
theorem dX4_pull_16 : decode cX4_pull 16 = .ok (.bipush 6, 2) := by decide +kernel
theorem dX4_pull_18 : decode cX4_pull 18 = .ok (.idiv, 1) := by decide +kernel
theorem dX4_pull_19 : decode cX4_pull 19 = .ok (.isub, 1) := by decide +kernel
theorem dX4_pull_20 : decode cX4_pull 20 = .ok (.istore 5, 2) := by decide +kernel
theorem dX4_pull_22 : decode cX4_pull 22 = .ok (.iload 4, 2) := by decide +kernel
theorem dX4_pull_24 : decode cX4_pull 24 = .ok (.iload 4, 2) := by decide +kernel
theorem dX4_pull_26 : decode cX4_pull 26 = .ok (.imul, 1) := by decide +kernel
theorem dX4_pull_27 : decode cX4_pull 27 = .ok (.iload 5, 2) := by decide +kernel
theorem dX4_pull_29 : decode cX4_pull 29 = .ok (.iload 5, 2) := by decide +kernel
theorem dX4_pull_31 : decode cX4_pull 31 = .ok (.imul, 1) := by decide +kernel
theorem dX4_pull_32 : decode cX4_pull 32 = .ok (.iadd, 1) := by decide +kernel
theorem dX4_pull_33 : decode cX4_pull 33 = .ok (.istore 6, 2) := by decide +kernel
theorem dX4_pull_35 : decode cX4_pull 35 = .ok (.iload 6, 2) := by decide +kernel
theorem dX4_pull_37 : decode cX4_pull 37 = .ok (.ifCond .ne 5, 3) := by decide +kernel
theorem dX4_pull_40 : decode cX4_pull 40 = .ok (.iconst 0, 1) := by decide +kernel
theorem dX4_pull_41 : decode cX4_pull 41 = .ok (.ireturn, 1) := by decide +kernel
theorem dX4_pull_42 : decode cX4_pull 42 = .ok (.iload_n 1, 1) := by decide +kernel
theorem dX4_pull_43 : decode cX4_pull 43 = .ok (.invokestatic 290, 3) := by decide +kernel
theorem dX4_pull_46 : decode cX4_pull 46 = .ok (.istore 7, 2) := by decide +kernel
theorem dX4_pull_48 : decode cX4_pull 48 = .ok (.iload_n 1, 1) := by decide +kernel
theorem dX4_pull_49 : decode cX4_pull 49 = .ok (.invokestatic 293, 3) := by decide +kernel
theorem dX4_pull_52 : decode cX4_pull 52 = .ok (.istore 8, 2) := by decide +kernel
theorem dX4_pull_54 : decode cX4_pull 54 = .ok (.iload_n 2, 1) := by decide +kernel
theorem dX4_pull_55 : decode cX4_pull 55 = .ok (.bipush 100, 2) := by decide +kernel
theorem dX4_pull_57 : decode cX4_pull 57 = .ok (.imul, 1) := by decide +kernel
theorem dX4_pull_58 : decode cX4_pull 58 = .ok (.iload 6, 2) := by decide +kernel
theorem dX4_pull_60 : decode cX4_pull 60 = .ok (.idiv, 1) := by decide +kernel
theorem dX4_pull_61 : decode cX4_pull 61 = .ok (.istore 9, 2) := by decide +kernel
theorem dX4_pull_63 : decode cX4_pull 63 = .ok (.iload 4, 2) := by decide +kernel
theorem dX4_pull_65 : decode cX4_pull 65 = .ok (.iload 7, 2) := by decide +kernel
theorem dX4_pull_67 : decode cX4_pull 67 = .ok (.imul, 1) := by decide +kernel
theorem dX4_pull_68 : decode cX4_pull 68 = .ok (.iload 5, 2) := by decide +kernel
theorem dX4_pull_70 : decode cX4_pull 70 = .ok (.iload 8, 2) := by decide +kernel
theorem dX4_pull_72 : decode cX4_pull 72 = .ok (.imul, 1) := by decide +kernel
theorem dX4_pull_73 : decode cX4_pull 73 = .ok (.iadd, 1) := by decide +kernel
theorem dX4_pull_74 : decode cX4_pull 74 = .ok (.istore 10, 2) := by decide +kernel
theorem dX4_pull_76 : decode cX4_pull 76 = .ok (.iconst 2, 1) := by decide +kernel
theorem dX4_pull_77 : decode cX4_pull 77 = .ok (.iload 10, 2) := by decide +kernel
theorem dX4_pull_79 : decode cX4_pull 79 = .ok (.imul, 1) := by decide +kernel
theorem dX4_pull_80 : decode cX4_pull 80 = .ok (.iload 10, 2) := by decide +kernel
theorem dX4_pull_82 : decode cX4_pull 82 = .ok (.imul, 1) := by decide +kernel
theorem dX4_pull_83 : decode cX4_pull 83 = .ok (.iload 6, 2) := by decide +kernel
theorem dX4_pull_85 : decode cX4_pull 85 = .ok (.iload 7, 2) := by decide +kernel
theorem dX4_pull_87 : decode cX4_pull 87 = .ok (.iload 7, 2) := by decide +kernel
theorem dX4_pull_89 : decode cX4_pull 89 = .ok (.imul, 1) := by decide +kernel
theorem dX4_pull_90 : decode cX4_pull 90 = .ok (.iload 8, 2) := by decide +kernel
theorem dX4_pull_92 : decode cX4_pull 92 = .ok (.iload 8, 2) := by decide +kernel
theorem dX4_pull_94 : decode cX4_pull 94 = .ok (.imul, 1) := by decide +kernel
theorem dX4_pull_95 : decode cX4_pull 95 = .ok (.iadd, 1) := by decide +kernel
theorem dX4_pull_96 : decode cX4_pull 96 = .ok (.imul, 1) := by decide +kernel
theorem dX4_pull_97 : decode cX4_pull 97 = .ok (.if_icmp .lt 7, 3) := by decide +kernel
theorem dX4_pull_100 : decode cX4_pull 100 = .ok (.iconst 1, 1) := by decide +kernel
theorem dX4_pull_101 : decode cX4_pull 101 = .ok (.goto 4, 3) := by decide +kernel
theorem dX4_pull_104 : decode cX4_pull 104 = .ok (.iconst 0, 1) := by decide +kernel
theorem dX4_pull_105 : decode cX4_pull 105 = .ok (.istore 11, 2) := by decide +kernel
theorem dX4_pull_107 : decode cX4_pull 107 = .ok (.iload 11, 2) := by decide +kernel
theorem dX4_pull_109 : decode cX4_pull 109 = .ok (.ifCond .eq 8, 3) := by decide +kernel
theorem dX4_pull_112 : decode cX4_pull 112 = .ok (.iload 9, 2) := by decide +kernel
theorem dX4_pull_114 : decode cX4_pull 114 = .ok (.goto 8, 3) := by decide +kernel
theorem dX4_pull_117 : decode cX4_pull 117 = .ok (.iload 9, 2) := by decide +kernel
theorem dX4_pull_119 : decode cX4_pull 119 = .ok (.iconst 2, 1) := by decide +kernel
theorem dX4_pull_120 : decode cX4_pull 120 = .ok (.idiv, 1) := by decide +kernel
theorem dX4_pull_121 : decode cX4_pull 121 = .ok (.ineg, 1) := by decide +kernel
theorem dX4_pull_122 : decode cX4_pull 122 = .ok (.ireturn, 1) := by decide +kernel
theorem dX4_ahead_0 : decode cX4_ahead 0 = .ok (.iload_n 1, 1) := by decide +kernel
theorem dX4_ahead_1 : decode cX4_ahead 1 = .ok (.iload_n 0, 1) := by decide +kernel
theorem dX4_ahead_2 : decode cX4_ahead 2 = .ok (.isub, 1) := by decide +kernel
theorem dX4_ahead_3 : decode cX4_ahead 3 = .ok (.bipush 7, 2) := by decide +kernel
theorem dX4_ahead_5 : decode cX4_ahead 5 = .ok (.iand, 1) := by decide +kernel
theorem dX4_ahead_6 : decode cX4_ahead 6 = .ok (.ireturn, 1) := by decide +kernel
