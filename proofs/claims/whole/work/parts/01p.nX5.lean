theorem dX5_isPart_106 : decode cX5_isPart 106 = .ok (.aload_n 0, 1) := by decide +kernel
theorem dX5_isPart_107 : decode cX5_isPart 107 = .ok (.bipush 49, 2) := by decide +kernel
theorem dX5_isPart_109 : decode cX5_isPart 109 = .ok (.bipush 57, 2) := by decide +kernel
theorem dX5_isPart_111 : decode cX5_isPart 111 = .ok (.invokevirtual 120, 3) := by decide +kernel
theorem dX5_isPart_114 : decode cX5_isPart 114 = .ok (.ifCond .ne 8, 3) := by decide +kernel
theorem dX5_isPart_117 : decode cX5_isPart 117 = .ok (.aload_n 0, 1) := by decide +kernel
theorem dX5_isPart_118 : decode cX5_isPart 118 = .ok (.invokevirtual 123, 3) := by decide +kernel
theorem dX5_isPart_121 : decode cX5_isPart 121 = .ok (.ireturn, 1) := by decide +kernel
theorem dX5_isPart_122 : decode cX5_isPart 122 = .ok (.aload_n 0, 1) := by decide +kernel
theorem dX5_isPart_123 : decode cX5_isPart 123 = .ok (.getfield 19, 3) := by decide +kernel
theorem dX5_isPart_126 : decode cX5_isPart 126 = .ok (.aload_n 0, 1) := by decide +kernel
theorem dX5_isPart_127 : decode cX5_isPart 127 = .ok (.getfield 113, 3) := by decide +kernel
theorem dX5_isPart_130 : decode cX5_isPart 130 = .ok (.iaload, 1) := by decide +kernel
theorem dX5_isPart_131 : decode cX5_isPart 131 = .ok (.bipush 48, 2) := by decide +kernel
theorem dX5_isPart_133 : decode cX5_isPart 133 = .ok (.isub, 1) := by decide +kernel
theorem dX5_isPart_134 : decode cX5_isPart 134 = .ok (.istore_n 3, 1) := by decide +kernel
theorem dX5_isPart_135 : decode cX5_isPart 135 = .ok (.aload_n 0, 1) := by decide +kernel
theorem dX5_isPart_136 : decode cX5_isPart 136 = .ok (.dup, 1) := by decide +kernel
theorem dX5_isPart_137 : decode cX5_isPart 137 = .ok (.getfield 113, 3) := by decide +kernel
theorem dX5_isPart_140 : decode cX5_isPart 140 = .ok (.iconst 1, 1) := by decide +kernel
theorem dX5_isPart_141 : decode cX5_isPart 141 = .ok (.iadd, 1) := by decide +kernel
theorem dX5_isPart_142 : decode cX5_isPart 142 = .ok (.putfield 113, 3) := by decide +kernel
theorem dX5_isPart_145 : decode cX5_isPart 145 = .ok (.aload_n 0, 1) := by decide +kernel
theorem dX5_isPart_146 : decode cX5_isPart 146 = .ok (.bipush 48, 2) := by decide +kernel
theorem dX5_isPart_148 : decode cX5_isPart 148 = .ok (.bipush 57, 2) := by decide +kernel
theorem dX5_isPart_150 : decode cX5_isPart 150 = .ok (.invokevirtual 120, 3) := by decide +kernel
theorem dX5_isPart_153 : decode cX5_isPart 153 = .ok (.ifCond .eq 53, 3) := by decide +kernel
theorem dX5_isPart_156 : decode cX5_isPart 156 = .ok (.bipush 10, 2) := by decide +kernel
theorem dX5_isPart_158 : decode cX5_isPart 158 = .ok (.iload_n 3, 1) := by decide +kernel
theorem dX5_isPart_159 : decode cX5_isPart 159 = .ok (.imul, 1) := by decide +kernel
theorem dX5_isPart_160 : decode cX5_isPart 160 = .ok (.aload_n 0, 1) := by decide +kernel
theorem dX5_isPart_161 : decode cX5_isPart 161 = .ok (.getfield 19, 3) := by decide +kernel
theorem dX5_isPart_164 : decode cX5_isPart 164 = .ok (.aload_n 0, 1) := by decide +kernel
theorem dX5_isPart_165 : decode cX5_isPart 165 = .ok (.getfield 113, 3) := by decide +kernel
theorem dX5_isPart_168 : decode cX5_isPart 168 = .ok (.iaload, 1) := by decide +kernel
theorem dX5_isPart_169 : decode cX5_isPart 169 = .ok (.iadd, 1) := by decide +kernel
theorem dX5_isPart_170 : decode cX5_isPart 170 = .ok (.bipush 48, 2) := by decide +kernel
theorem dX5_isPart_172 : decode cX5_isPart 172 = .ok (.isub, 1) := by decide +kernel
theorem dX5_isPart_173 : decode cX5_isPart 173 = .ok (.bipush 50, 2) := by decide +kernel
theorem dX5_isPart_175 : decode cX5_isPart 175 = .ok (.if_icmp .gt 31, 3) := by decide +kernel
theorem dX5_isPart_178 : decode cX5_isPart 178 = .ok (.bipush 10, 2) := by decide +kernel
theorem dX5_isPart_180 : decode cX5_isPart 180 = .ok (.iload_n 3, 1) := by decide +kernel
theorem dX5_isPart_181 : decode cX5_isPart 181 = .ok (.imul, 1) := by decide +kernel
theorem dX5_isPart_182 : decode cX5_isPart 182 = .ok (.aload_n 0, 1) := by decide +kernel
theorem dX5_isPart_183 : decode cX5_isPart 183 = .ok (.getfield 19, 3) := by decide +kernel
theorem dX5_isPart_186 : decode cX5_isPart 186 = .ok (.aload_n 0, 1) := by decide +kernel
theorem dX5_isPart_187 : decode cX5_isPart 187 = .ok (.getfield 113, 3) := by decide +kernel
theorem dX5_isPart_190 : decode cX5_isPart 190 = .ok (.iaload, 1) := by decide +kernel
theorem dX5_isPart_191 : decode cX5_isPart 191 = .ok (.iadd, 1) := by decide +kernel
theorem dX5_isPart_192 : decode cX5_isPart 192 = .ok (.bipush 48, 2) := by decide +kernel
theorem dX5_isPart_194 : decode cX5_isPart 194 = .ok (.isub, 1) := by decide +kernel
theorem dX5_isPart_195 : decode cX5_isPart 195 = .ok (.istore_n 3, 1) := by decide +kernel
theorem dX5_isPart_196 : decode cX5_isPart 196 = .ok (.aload_n 0, 1) := by decide +kernel
theorem dX5_isPart_197 : decode cX5_isPart 197 = .ok (.dup, 1) := by decide +kernel
theorem dX5_isPart_198 : decode cX5_isPart 198 = .ok (.getfield 113, 3) := by decide +kernel
theorem dX5_isPart_201 : decode cX5_isPart 201 = .ok (.iconst 1, 1) := by decide +kernel
theorem dX5_isPart_202 : decode cX5_isPart 202 = .ok (.iadd, 1) := by decide +kernel
theorem dX5_isPart_203 : decode cX5_isPart 203 = .ok (.putfield 113, 3) := by decide +kernel
theorem dX5_isPart_206 : decode cX5_isPart 206 = .ok (.aload_n 0, 1) := by decide +kernel
theorem dX5_isPart_207 : decode cX5_isPart 207 = .ok (.getfield 22, 3) := by decide +kernel
theorem dX5_isPart_210 : decode cX5_isPart 210 = .ok (.iconst 3, 1) := by decide +kernel
theorem dX5_isPart_211 : decode cX5_isPart 211 = .ok (.aload_n 0, 1) := by decide +kernel
theorem dX5_isPart_212 : decode cX5_isPart 212 = .ok (.getfield 127, 3) := by decide +kernel
theorem dX5_isPart_215 : decode cX5_isPart 215 = .ok (.imul, 1) := by decide +kernel
theorem dX5_isPart_216 : decode cX5_isPart 216 = .ok (.iload_n 1, 1) := by decide +kernel
theorem dX5_isPart_217 : decode cX5_isPart 217 = .ok (.iastore, 1) := by decide +kernel
theorem dX5_isPart_218 : decode cX5_isPart 218 = .ok (.aload_n 0, 1) := by decide +kernel
theorem dX5_isPart_219 : decode cX5_isPart 219 = .ok (.getfield 22, 3) := by decide +kernel
theorem dX5_isPart_222 : decode cX5_isPart 222 = .ok (.iconst 3, 1) := by decide +kernel
theorem dX5_isPart_223 : decode cX5_isPart 223 = .ok (.aload_n 0, 1) := by decide +kernel
theorem dX5_isPart_224 : decode cX5_isPart 224 = .ok (.getfield 127, 3) := by decide +kernel
theorem dX5_isPart_227 : decode cX5_isPart 227 = .ok (.imul, 1) := by decide +kernel
theorem dX5_isPart_228 : decode cX5_isPart 228 = .ok (.iconst 1, 1) := by decide +kernel
theorem dX5_isPart_229 : decode cX5_isPart 229 = .ok (.iadd, 1) := by decide +kernel
theorem dX5_isPart_230 : decode cX5_isPart 230 = .ok (.iload_n 2, 1) := by decide +kernel
theorem dX5_isPart_231 : decode cX5_isPart 231 = .ok (.iastore, 1) := by decide +kernel
theorem dX5_isPart_232 : decode cX5_isPart 232 = .ok (.aload_n 0, 1) := by decide +kernel
theorem dX5_isPart_233 : decode cX5_isPart 233 = .ok (.getfield 22, 3) := by decide +kernel
theorem dX5_isPart_236 : decode cX5_isPart 236 = .ok (.iconst 3, 1) := by decide +kernel
theorem dX5_isPart_237 : decode cX5_isPart 237 = .ok (.aload_n 0, 1) := by decide +kernel
theorem dX5_isPart_238 : decode cX5_isPart 238 = .ok (.getfield 127, 3) := by decide +kernel
theorem dX5_isPart_241 : decode cX5_isPart 241 = .ok (.imul, 1) := by decide +kernel
theorem dX5_isPart_242 : decode cX5_isPart 242 = .ok (.iconst 2, 1) := by decide +kernel
theorem dX5_isPart_243 : decode cX5_isPart 243 = .ok (.iadd, 1) := by decide +kernel
theorem dX5_isPart_244 : decode cX5_isPart 244 = .ok (.iload_n 3, 1) := by decide +kernel
theorem dX5_isPart_245 : decode cX5_isPart 245 = .ok (.iastore, 1) := by decide +kernel
theorem dX5_isPart_246 : decode cX5_isPart 246 = .ok (.iconst 1, 1) := by decide +kernel
theorem dX5_isPart_247 : decode cX5_isPart 247 = .ok (.ireturn, 1) := by decide +kernel
set_option maxRecDepth 20000 in
theorem ggX5_isText_X5_isPart : GoodIn wsX5_isText wsX5_isPart := goodIn_r _ [9, 10, 1, 11, 2, 12, 13, 14, 8, 15, 4, 16, 17, 18, 19, 20, 21, 22, 3, 23, 24, 25, 26, 27, 28, 29, 30, 31, 32, 33, 34, 35, 36] (by decide +kernel) (by decide +kernel)
set_option maxRecDepth 20000 in
theorem gX5_isText_X5_isPart : GoodIn wsX5_isText (wsV RX5 130 RX5 yX5_isPart wsX5_isPart) := goodIn_app (goodIn_of _ (by decide +kernel)) ggX5_isText_X5_isPart
set_option maxRecDepth 20000 in
theorem ggX5_isText_X5_isAt : GoodIn wsX5_isText wsX5_isAt := goodIn_r _ [15, 1, 4, 10, 16, 17, 8, 18, 23, 24, 25, 26, 27, 28, 29, 30, 31, 32, 33, 34, 35, 36] (by decide +kernel) (by decide +kernel)
set_option maxRecDepth 20000 in
theorem gX5_isText_X5_isAt : GoodIn wsX5_isText (wsV RX5 120 RX5 yX5_isAt wsX5_isAt) := goodIn_app (goodIn_of _ (by decide +kernel)) ggX5_isText_X5_isAt
theorem dX5_isText_0 : decode cX5_isText 0 = .ok (.aload_n 0, 1) := by decide +kernel
theorem dX5_isText_1 : decode cX5_isText 1 = .ok (.iconst 0, 1) := by decide +kernel
theorem dX5_isText_2 : decode cX5_isText 2 = .ok (.putfield 113, 3) := by decide +kernel
theorem dX5_isText_5 : decode cX5_isText 5 = .ok (.aload_n 0, 1) := by decide +kernel
theorem dX5_isText_6 : decode cX5_isText 6 = .ok (.iconst 0, 1) := by decide +kernel
theorem dX5_isText_7 : decode cX5_isText 7 = .ok (.putfield 127, 3) := by decide +kernel
theorem dX5_isText_10 : decode cX5_isText 10 = .ok (.aload_n 0, 1) := by decide +kernel
theorem dX5_isText_11 : decode cX5_isText 11 = .ok (.iconst 0, 1) := by decide +kernel
theorem dX5_isText_12 : decode cX5_isText 12 = .ok (.putfield 116, 3) := by decide +kernel
theorem dX5_isText_15 : decode cX5_isText 15 = .ok (.iconst 1, 1) := by decide +kernel
theorem dX5_isText_16 : decode cX5_isText 16 = .ok (.istore_n 1, 1) := by decide +kernel
theorem dX5_isText_17 : decode cX5_isText 17 = .ok (.iload_n 1, 1) := by decide +kernel
theorem dX5_isText_18 : decode cX5_isText 18 = .ok (.ifCond .eq 69, 3) := by decide +kernel
theorem dX5_isText_21 : decode cX5_isText 21 = .ok (.aload_n 0, 1) := by decide +kernel
theorem dX5_isText_22 : decode cX5_isText 22 = .ok (.invokevirtual 130, 3) := by decide +kernel
theorem dX5_isText_25 : decode cX5_isText 25 = .ok (.ifCond .ne 5, 3) := by decide +kernel
theorem dX5_isText_28 : decode cX5_isText 28 = .ok (.iconst 0, 1) := by decide +kernel
theorem dX5_isText_29 : decode cX5_isText 29 = .ok (.ireturn, 1) := by decide +kernel
theorem dX5_isText_30 : decode cX5_isText 30 = .ok (.aload_n 0, 1) := by decide +kernel
theorem dX5_isText_31 : decode cX5_isText 31 = .ok (.dup, 1) := by decide +kernel
theorem dX5_isText_32 : decode cX5_isText 32 = .ok (.getfield 127, 3) := by decide +kernel
theorem dX5_isText_35 : decode cX5_isText 35 = .ok (.iconst 1, 1) := by decide +kernel
theorem dX5_isText_36 : decode cX5_isText 36 = .ok (.iadd, 1) := by decide +kernel
theorem dX5_isText_37 : decode cX5_isText 37 = .ok (.putfield 127, 3) := by decide +kernel
theorem dX5_isText_40 : decode cX5_isText 40 = .ok (.aload_n 0, 1) := by decide +kernel
theorem dX5_isText_41 : decode cX5_isText 41 = .ok (.getfield 127, 3) := by decide +kernel
theorem dX5_isText_44 : decode cX5_isText 44 = .ok (.bipush 6, 2) := by decide +kernel
theorem dX5_isText_46 : decode cX5_isText 46 = .ok (.if_icmp .ge 18, 3) := by decide +kernel
theorem dX5_isText_49 : decode cX5_isText 49 = .ok (.aload_n 0, 1) := by decide +kernel
theorem dX5_isText_50 : decode cX5_isText 50 = .ok (.bipush 59, 2) := by decide +kernel
theorem dX5_isText_52 : decode cX5_isText 52 = .ok (.bipush 59, 2) := by decide +kernel
theorem dX5_isText_54 : decode cX5_isText 54 = .ok (.invokevirtual 120, 3) := by decide +kernel
theorem dX5_isText_57 : decode cX5_isText 57 = .ok (.ifCond .eq 7, 3) := by decide +kernel
theorem dX5_isText_60 : decode cX5_isText 60 = .ok (.iconst 1, 1) := by decide +kernel
theorem dX5_isText_61 : decode cX5_isText 61 = .ok (.goto 4, 3) := by decide +kernel
theorem dX5_isText_64 : decode cX5_isText 64 = .ok (.iconst 0, 1) := by decide +kernel
theorem dX5_isText_65 : decode cX5_isText 65 = .ok (.istore_n 1, 1) := by decide +kernel
theorem dX5_isText_66 : decode cX5_isText 66 = .ok (.aload_n 0, 1) := by decide +kernel
theorem dX5_isText_67 : decode cX5_isText 67 = .ok (.dup, 1) := by decide +kernel
theorem dX5_isText_68 : decode cX5_isText 68 = .ok (.getfield 113, 3) := by decide +kernel
theorem dX5_isText_71 : decode cX5_isText 71 = .ok (.iload_n 1, 1) := by decide +kernel
theorem dX5_isText_72 : decode cX5_isText 72 = .ok (.ifCond .eq 7, 3) := by decide +kernel
theorem dX5_isText_75 : decode cX5_isText 75 = .ok (.iconst 1, 1) := by decide +kernel
theorem dX5_isText_76 : decode cX5_isText 76 = .ok (.goto 4, 3) := by decide +kernel
theorem dX5_isText_79 : decode cX5_isText 79 = .ok (.iconst 0, 1) := by decide +kernel
theorem dX5_isText_80 : decode cX5_isText 80 = .ok (.iadd, 1) := by decide +kernel
theorem dX5_isText_81 : decode cX5_isText 81 = .ok (.putfield 113, 3) := by decide +kernel
theorem dX5_isText_84 : decode cX5_isText 84 = .ok (.goto (-67), 3) := by decide +kernel
theorem dX5_isText_87 : decode cX5_isText 87 = .ok (.aload_n 0, 1) := by decide +kernel
theorem dX5_isText_88 : decode cX5_isText 88 = .ok (.aload_n 0, 1) := by decide +kernel
theorem dX5_isText_89 : decode cX5_isText 89 = .ok (.getfield 113, 3) := by decide +kernel
theorem dX5_isText_92 : decode cX5_isText 92 = .ok (.aload_n 0, 1) := by decide +kernel
theorem dX5_isText_93 : decode cX5_isText 93 = .ok (.getfield 110, 3) := by decide +kernel
theorem dX5_isText_96 : decode cX5_isText 96 = .ok (.if_icmp .ge 7, 3) := by decide +kernel
theorem dX5_isText_99 : decode cX5_isText 99 = .ok (.iconst 1, 1) := by decide +kernel
theorem dX5_isText_100 : decode cX5_isText 100 = .ok (.goto 4, 3) := by decide +kernel
theorem dX5_isText_103 : decode cX5_isText 103 = .ok (.iconst 0, 1) := by decide +kernel
theorem dX5_isText_104 : decode cX5_isText 104 = .ok (.putfield 116, 3) := by decide +kernel
theorem dX5_isText_107 : decode cX5_isText 107 = .ok (.aload_n 0, 1) := by decide +kernel
theorem dX5_isText_108 : decode cX5_isText 108 = .ok (.getfield 113, 3) := by decide +kernel
theorem dX5_isText_111 : decode cX5_isText 111 = .ok (.aload_n 0, 1) := by decide +kernel
theorem dX5_isText_112 : decode cX5_isText 112 = .ok (.getfield 110, 3) := by decide +kernel
theorem dX5_isText_115 : decode cX5_isText 115 = .ok (.if_icmp .ne 7, 3) := by decide +kernel
theorem dX5_isText_118 : decode cX5_isText 118 = .ok (.iconst 1, 1) := by decide +kernel
theorem dX5_isText_119 : decode cX5_isText 119 = .ok (.goto 4, 3) := by decide +kernel
theorem dX5_isText_122 : decode cX5_isText 122 = .ok (.iconst 0, 1) := by decide +kernel
theorem dX5_isText_123 : decode cX5_isText 123 = .ok (.ireturn, 1) := by decide +kernel
set_option maxRecDepth 20000 in
theorem ggX5_firstError_X5_isText : GoodIn wsX5_firstError wsX5_isText := goodIn_r _ [9, 3, 10, 2, 4, 11, 12, 13, 8, 14, 15, 16, 17, 18, 19, 20, 21, 22, 23, 24, 25, 26, 27, 28, 29, 30, 31, 32, 33, 34, 35, 36, 37, 38, 39, 40, 41] (by decide +kernel) (by decide +kernel)
set_option maxRecDepth 20000 in
theorem gX5_firstError_X5_isText : GoodIn wsX5_firstError (wsV RX5 133 RX5 yX5_isText wsX5_isText) := goodIn_app (goodIn_of _ (by decide +kernel)) ggX5_firstError_X5_isText
theorem dX5_firstError_0 : decode cX5_firstError 0 = .ok (.aload_n 0, 1) := by decide +kernel
theorem dX5_firstError_1 : decode cX5_firstError 1 = .ok (.iconst 0, 1) := by decide +kernel
theorem dX5_firstError_2 : decode cX5_firstError 2 = .ok (.putfield 28, 3) := by decide +kernel
theorem dX5_firstError_5 : decode cX5_firstError 5 = .ok (.aload_n 0, 1) := by decide +kernel
theorem dX5_firstError_6 : decode cX5_firstError 6 = .ok (.invokevirtual 133, 3) := by decide +kernel
theorem dX5_firstError_9 : decode cX5_firstError 9 = .ok (.istore_n 1, 1) := by decide +kernel
theorem dX5_firstError_10 : decode cX5_firstError 10 = .ok (.iload_n 1, 1) := by decide +kernel
theorem dX5_firstError_11 : decode cX5_firstError 11 = .ok (.ifCond .ne 17, 3) := by decide +kernel
theorem dX5_firstError_14 : decode cX5_firstError 14 = .ok (.aload_n 0, 1) := by decide +kernel
theorem dX5_firstError_15 : decode cX5_firstError 15 = .ok (.getfield 116, 3) := by decide +kernel
theorem dX5_firstError_18 : decode cX5_firstError 18 = .ok (.ifCond .eq 10, 3) := by decide +kernel
theorem dX5_firstError_21 : decode cX5_firstError 21 = .ok (.aload_n 0, 1) := by decide +kernel
theorem dX5_firstError_22 : decode cX5_firstError 22 = .ok (.getfield 113, 3) := by decide +kernel
theorem dX5_firstError_25 : decode cX5_firstError 25 = .ok (.goto 7, 3) := by decide +kernel
theorem dX5_firstError_28 : decode cX5_firstError 28 = .ok (.aload_n 0, 1) := by decide +kernel
theorem dX5_firstError_29 : decode cX5_firstError 29 = .ok (.getfield 110, 3) := by decide +kernel
theorem dX5_firstError_32 : decode cX5_firstError 32 = .ok (.ireturn, 1) := by decide +kernel
set_option maxRecDepth 20000 in
theorem ggX5_bars_X5_isText : GoodIn wsX5_bars wsX5_isText := goodIn_r _ [10, 11, 4, 12, 2, 13, 14, 15, 9, 16, 17, 5, 18, 19, 20, 21, 22, 23, 24, 25, 26, 27, 28, 48, 49, 50, 51, 52, 53, 54, 55, 56, 57, 58, 59, 60, 61] (by decide +kernel) (by decide +kernel)
set_option maxRecDepth 20000 in
theorem gX5_bars_X5_isText : GoodIn wsX5_bars (wsV RX5 133 RX5 yX5_isText wsX5_isText) := goodIn_app (goodIn_of _ (by decide +kernel)) ggX5_bars_X5_isText
set_option maxRecDepth 20000 in
theorem ggX5_bars_X5_fails : GoodIn wsX5_bars wsX5_fails := goodIn_r _ [32, 1, 48, 49, 50, 51, 52, 53, 54, 55, 56, 57, 58, 59, 60, 61] (by decide +kernel) (by decide +kernel)
set_option maxRecDepth 20000 in
theorem gX5_bars_X5_fails : GoodIn wsX5_bars (wsV RX5 43 RX5 yX5_fails wsX5_fails) := goodIn_app (goodIn_of _ (by decide +kernel)) ggX5_bars_X5_fails
set_option maxRecDepth 20000 in
theorem ggX5_bars_X5_saves : GoodIn wsX5_bars wsX5_saves := goodIn_r _ [36, 37, 38, 3, 39, 40, 9, 41, 48, 49, 50, 51, 52, 53, 54, 55, 56, 57, 58, 59, 60, 61] (by decide +kernel) (by decide +kernel)
set_option maxRecDepth 20000 in
theorem gX5_bars_X5_saves : GoodIn wsX5_bars (wsV RX5 88 RX5 yX5_saves wsX5_saves) := goodIn_app (goodIn_of _ (by decide +kernel)) ggX5_bars_X5_saves
set_option maxRecDepth 20000 in
theorem ggX5_bars_X5_laysBar : GoodIn wsX5_bars wsX5_laysBar := goodIn_r _ [44] (by decide +kernel) (by decide +kernel)
set_option maxRecDepth 20000 in
theorem gX5_bars_X5_laysBar : GoodIn wsX5_bars (va_wsS RX5 103 yX5_laysBar wsX5_laysBar) := goodIn_app (goodIn_of _ (by decide +kernel)) ggX5_bars_X5_laysBar
set_option maxRecDepth 20000 in
theorem ggX5_bars_X5_lying : GoodIn wsX5_bars wsX5_lying := goodIn_r _ [47] (by decide +kernel) (by decide +kernel)
set_option maxRecDepth 20000 in
theorem gX5_bars_X5_lying : GoodIn wsX5_bars (va_wsS RX5 99 yX5_lying wsX5_lying) := goodIn_app (goodIn_of _ (by decide +kernel)) ggX5_bars_X5_lying
theorem dX5_bars_0 : decode cX5_bars 0 = .ok (.aload_n 0, 1) := by decide +kernel
theorem dX5_bars_1 : decode cX5_bars 1 = .ok (.iconst 0, 1) := by decide +kernel
theorem dX5_bars_2 : decode cX5_bars 2 = .ok (.putfield 28, 3) := by decide +kernel
theorem dX5_bars_5 : decode cX5_bars 5 = .ok (.aload_n 0, 1) := by decide +kernel
theorem dX5_bars_6 : decode cX5_bars 6 = .ok (.invokevirtual 133, 3) := by decide +kernel
theorem dX5_bars_9 : decode cX5_bars 9 = .ok (.ifCond .ne 9, 3) := by decide +kernel
theorem dX5_bars_12 : decode cX5_bars 12 = .ok (.aload_n 0, 1) := by decide +kernel
theorem dX5_bars_13 : decode cX5_bars 13 = .ok (.iconst 1, 1) := by decide +kernel
theorem dX5_bars_14 : decode cX5_bars 14 = .ok (.invokevirtual 43, 3) := by decide +kernel
theorem dX5_bars_17 : decode cX5_bars 17 = .ok (.ireturn, 1) := by decide +kernel
theorem dX5_bars_18 : decode cX5_bars 18 = .ok (.aload_n 0, 1) := by decide +kernel
theorem dX5_bars_19 : decode cX5_bars 19 = .ok (.invokevirtual 88, 3) := by decide +kernel
theorem dX5_bars_22 : decode cX5_bars 22 = .ok (.aload_n 0, 1) := by decide +kernel
theorem dX5_bars_23 : decode cX5_bars 23 = .ok (.iconst 0, 1) := by decide +kernel
theorem dX5_bars_24 : decode cX5_bars 24 = .ok (.putfield 110, 3) := by decide +kernel
theorem dX5_bars_27 : decode cX5_bars 27 = .ok (.iconst 0, 1) := by decide +kernel
theorem dX5_bars_28 : decode cX5_bars 28 = .ok (.istore_n 1, 1) := by decide +kernel
theorem dX5_bars_29 : decode cX5_bars 29 = .ok (.iload_n 1, 1) := by decide +kernel
theorem dX5_bars_30 : decode cX5_bars 30 = .ok (.bipush 36, 2) := by decide +kernel
theorem dX5_bars_32 : decode cX5_bars 32 = .ok (.if_icmp .ge 19, 3) := by decide +kernel
theorem dX5_bars_35 : decode cX5_bars 35 = .ok (.aload_n 0, 1) := by decide +kernel
theorem dX5_bars_36 : decode cX5_bars 36 = .ok (.getfield 7, 3) := by decide +kernel
theorem dX5_bars_39 : decode cX5_bars 39 = .ok (.iload_n 1, 1) := by decide +kernel
theorem dX5_bars_40 : decode cX5_bars 40 = .ok (.iconst 0, 1) := by decide +kernel
theorem dX5_bars_41 : decode cX5_bars 41 = .ok (.iconst 0, 1) := by decide +kernel
theorem dX5_bars_42 : decode cX5_bars 42 = .ok (.invokestatic 103, 3) := by decide +kernel
theorem dX5_bars_45 : decode cX5_bars 45 = .ok (.iinc 1 1, 3) := by decide +kernel
theorem dX5_bars_48 : decode cX5_bars 48 = .ok (.goto (-19), 3) := by decide +kernel
theorem dX5_bars_51 : decode cX5_bars 51 = .ok (.iconst 0, 1) := by decide +kernel
theorem dX5_bars_52 : decode cX5_bars 52 = .ok (.istore_n 1, 1) := by decide +kernel
theorem dX5_bars_53 : decode cX5_bars 53 = .ok (.iload_n 1, 1) := by decide +kernel
theorem dX5_bars_54 : decode cX5_bars 54 = .ok (.aload_n 0, 1) := by decide +kernel
theorem dX5_bars_55 : decode cX5_bars 55 = .ok (.getfield 127, 3) := by decide +kernel
theorem dX5_bars_58 : decode cX5_bars 58 = .ok (.if_icmp .ge 44, 3) := by decide +kernel
theorem dX5_bars_61 : decode cX5_bars 61 = .ok (.aload_n 0, 1) := by decide +kernel
theorem dX5_bars_62 : decode cX5_bars 62 = .ok (.getfield 7, 3) := by decide +kernel
theorem dX5_bars_65 : decode cX5_bars 65 = .ok (.aload_n 0, 1) := by decide +kernel
theorem dX5_bars_66 : decode cX5_bars 66 = .ok (.getfield 22, 3) := by decide +kernel
theorem dX5_bars_69 : decode cX5_bars 69 = .ok (.iconst 3, 1) := by decide +kernel
theorem dX5_bars_70 : decode cX5_bars 70 = .ok (.iload_n 1, 1) := by decide +kernel
theorem dX5_bars_71 : decode cX5_bars 71 = .ok (.imul, 1) := by decide +kernel
theorem dX5_bars_72 : decode cX5_bars 72 = .ok (.iaload, 1) := by decide +kernel
theorem dX5_bars_73 : decode cX5_bars 73 = .ok (.aload_n 0, 1) := by decide +kernel
theorem dX5_bars_74 : decode cX5_bars 74 = .ok (.getfield 22, 3) := by decide +kernel
theorem dX5_bars_77 : decode cX5_bars 77 = .ok (.iconst 3, 1) := by decide +kernel
theorem dX5_bars_78 : decode cX5_bars 78 = .ok (.iload_n 1, 1) := by decide +kernel
theorem dX5_bars_79 : decode cX5_bars 79 = .ok (.imul, 1) := by decide +kernel
theorem dX5_bars_80 : decode cX5_bars 80 = .ok (.iconst 1, 1) := by decide +kernel
theorem dX5_bars_81 : decode cX5_bars 81 = .ok (.iadd, 1) := by decide +kernel
theorem dX5_bars_82 : decode cX5_bars 82 = .ok (.iaload, 1) := by decide +kernel
theorem dX5_bars_83 : decode cX5_bars 83 = .ok (.aload_n 0, 1) := by decide +kernel
theorem dX5_bars_84 : decode cX5_bars 84 = .ok (.getfield 22, 3) := by decide +kernel
theorem dX5_bars_87 : decode cX5_bars 87 = .ok (.iconst 3, 1) := by decide +kernel
theorem dX5_bars_88 : decode cX5_bars 88 = .ok (.iload_n 1, 1) := by decide +kernel
theorem dX5_bars_89 : decode cX5_bars 89 = .ok (.imul, 1) := by decide +kernel
theorem dX5_bars_90 : decode cX5_bars 90 = .ok (.iconst 2, 1) := by decide +kernel
theorem dX5_bars_91 : decode cX5_bars 91 = .ok (.iadd, 1) := by decide +kernel
theorem dX5_bars_92 : decode cX5_bars 92 = .ok (.iaload, 1) := by decide +kernel
theorem dX5_bars_93 : decode cX5_bars 93 = .ok (.invokestatic 103, 3) := by decide +kernel
theorem dX5_bars_96 : decode cX5_bars 96 = .ok (.iinc 1 1, 3) := by decide +kernel
theorem dX5_bars_99 : decode cX5_bars 99 = .ok (.goto (-46), 3) := by decide +kernel
theorem dX5_bars_102 : decode cX5_bars 102 = .ok (.aload_n 0, 1) := by decide +kernel
theorem dX5_bars_103 : decode cX5_bars 103 = .ok (.getfield 7, 3) := by decide +kernel
theorem dX5_bars_106 : decode cX5_bars 106 = .ok (.invokestatic 99, 3) := by decide +kernel
theorem dX5_bars_109 : decode cX5_bars 109 = .ok (.ireturn, 1) := by decide +kernel
set_option maxRecDepth 20000 in
theorem ggX5_ofCell_X5_aim : GoodIn wsX5_ofCell wsX5_aim := goodIn_r _ [9, 2, 4, 10, 11, 12, 8, 13, 14, 15, 16, 17, 18, 19, 20, 21, 22, 23, 24, 25, 26, 27, 28, 29, 30, 31, 32, 33, 42, 43, 44, 45, 46, 47, 48, 49, 50, 51, 52, 53, 54, 55] (by decide +kernel) (by decide +kernel)
set_option maxRecDepth 20000 in
theorem gX5_ofCell_X5_aim : GoodIn wsX5_ofCell (wsV RX5 74 RX5 yX5_aim wsX5_aim) := goodIn_app (goodIn_of _ (by decide +kernel)) ggX5_ofCell_X5_aim
set_option maxRecDepth 20000 in
theorem ggX5_ofCell_X5_turned : GoodIn wsX5_ofCell wsX5_turned := goodIn_r _ [37, 2, 4, 5, 6, 7, 8, 9, 10, 11, 12, 13, 14, 15, 16, 17, 18, 19, 20, 21, 22, 23, 24, 25, 26, 27, 28, 29, 30, 31, 32, 33, 42, 43, 44, 45, 46, 47, 48, 49, 50, 51, 52, 53, 54, 55] (by decide +kernel) (by decide +kernel)
set_option maxRecDepth 20000 in
theorem gX5_ofCell_X5_turned : GoodIn wsX5_ofCell (wsV RX5 78 RX5 yX5_turned wsX5_turned) := goodIn_app (goodIn_of _ (by decide +kernel)) ggX5_ofCell_X5_turned
set_option maxRecDepth 20000 in
theorem ggX5_ofCell_X5_away : GoodIn wsX5_ofCell wsX5_away := goodIn_r _ [41, 5, 6, 7, 8, 9, 2, 4, 10, 11, 12, 13, 14, 15, 16, 17, 18, 19, 20, 21, 22, 23, 24, 25, 26, 27, 28, 29, 30, 31, 32, 33, 42, 43, 44, 45, 46, 47, 48, 49, 50, 51, 52, 53, 54, 55] (by decide +kernel) (by decide +kernel)
set_option maxRecDepth 20000 in
theorem gX5_ofCell_X5_away : GoodIn wsX5_ofCell (wsV RX5 137 RX5 yX5_away wsX5_away) := goodIn_app (goodIn_of _ (by decide +kernel)) ggX5_ofCell_X5_away
theorem dX5_ofCell_0 : decode cX5_ofCell 0 = .ok (.aload_n 0, 1) := by decide +kernel
theorem dX5_ofCell_1 : decode cX5_ofCell 1 = .ok (.aload_n 0, 1) := by decide +kernel
theorem dX5_ofCell_2 : decode cX5_ofCell 2 = .ok (.getfield 7, 3) := by decide +kernel
theorem dX5_ofCell_5 : decode cX5_ofCell 5 = .ok (.iload_n 1, 1) := by decide +kernel
theorem dX5_ofCell_6 : decode cX5_ofCell 6 = .ok (.invokevirtual 74, 3) := by decide +kernel
theorem dX5_ofCell_9 : decode cX5_ofCell 9 = .ok (.istore_n 3, 1) := by decide +kernel
theorem dX5_ofCell_10 : decode cX5_ofCell 10 = .ok (.iload_n 2, 1) := by decide +kernel
theorem dX5_ofCell_11 : decode cX5_ofCell 11 = .ok (.tableswitch 116 0 6 #[41, 51, 61, 71, 79, 87, 89], 41) := by decide +kernel
theorem dX5_ofCell_52 : decode cX5_ofCell 52 = .ok (.aload_n 0, 1) := by decide +kernel
theorem dX5_ofCell_53 : decode cX5_ofCell 53 = .ok (.getfield 7, 3) := by decide +kernel
theorem dX5_ofCell_56 : decode cX5_ofCell 56 = .ok (.bipush 6, 2) := by decide +kernel
theorem dX5_ofCell_58 : decode cX5_ofCell 58 = .ok (.iload_n 1, 1) := by decide +kernel
theorem dX5_ofCell_59 : decode cX5_ofCell 59 = .ok (.iadd, 1) := by decide +kernel
theorem dX5_ofCell_60 : decode cX5_ofCell 60 = .ok (.iaload, 1) := by decide +kernel
theorem dX5_ofCell_61 : decode cX5_ofCell 61 = .ok (.ireturn, 1) := by decide +kernel
theorem dX5_ofCell_62 : decode cX5_ofCell 62 = .ok (.aload_n 0, 1) := by decide +kernel
theorem dX5_ofCell_63 : decode cX5_ofCell 63 = .ok (.getfield 7, 3) := by decide +kernel
theorem dX5_ofCell_66 : decode cX5_ofCell 66 = .ok (.bipush 42, 2) := by decide +kernel
theorem dX5_ofCell_68 : decode cX5_ofCell 68 = .ok (.iload_n 1, 1) := by decide +kernel
theorem dX5_ofCell_69 : decode cX5_ofCell 69 = .ok (.iadd, 1) := by decide +kernel
theorem dX5_ofCell_70 : decode cX5_ofCell 70 = .ok (.iaload, 1) := by decide +kernel
theorem dX5_ofCell_71 : decode cX5_ofCell 71 = .ok (.ireturn, 1) := by decide +kernel
theorem dX5_ofCell_72 : decode cX5_ofCell 72 = .ok (.aload_n 0, 1) := by decide +kernel
theorem dX5_ofCell_73 : decode cX5_ofCell 73 = .ok (.getfield 7, 3) := by decide +kernel
theorem dX5_ofCell_76 : decode cX5_ofCell 76 = .ok (.bipush 78, 2) := by decide +kernel
theorem dX5_ofCell_78 : decode cX5_ofCell 78 = .ok (.iload_n 1, 1) := by decide +kernel
theorem dX5_ofCell_79 : decode cX5_ofCell 79 = .ok (.iadd, 1) := by decide +kernel
theorem dX5_ofCell_80 : decode cX5_ofCell 80 = .ok (.iaload, 1) := by decide +kernel
theorem dX5_ofCell_81 : decode cX5_ofCell 81 = .ok (.ireturn, 1) := by decide +kernel
theorem dX5_ofCell_82 : decode cX5_ofCell 82 = .ok (.aload_n 0, 1) := by decide +kernel
theorem dX5_ofCell_83 : decode cX5_ofCell 83 = .ok (.getfield 47, 3) := by decide +kernel
theorem dX5_ofCell_86 : decode cX5_ofCell 86 = .ok (.ldc 136, 2) := by decide +kernel
theorem dX5_ofCell_88 : decode cX5_ofCell 88 = .ok (.iadd, 1) := by decide +kernel
theorem dX5_ofCell_89 : decode cX5_ofCell 89 = .ok (.ireturn, 1) := by decide +kernel
theorem dX5_ofCell_90 : decode cX5_ofCell 90 = .ok (.aload_n 0, 1) := by decide +kernel
theorem dX5_ofCell_91 : decode cX5_ofCell 91 = .ok (.getfield 53, 3) := by decide +kernel
theorem dX5_ofCell_94 : decode cX5_ofCell 94 = .ok (.ldc 136, 2) := by decide +kernel
theorem dX5_ofCell_96 : decode cX5_ofCell 96 = .ok (.iadd, 1) := by decide +kernel
theorem dX5_ofCell_97 : decode cX5_ofCell 97 = .ok (.ireturn, 1) := by decide +kernel
theorem dX5_ofCell_98 : decode cX5_ofCell 98 = .ok (.iload_n 3, 1) := by decide +kernel
theorem dX5_ofCell_99 : decode cX5_ofCell 99 = .ok (.ireturn, 1) := by decide +kernel
theorem dX5_ofCell_100 : decode cX5_ofCell 100 = .ok (.aload_n 0, 1) := by decide +kernel
theorem dX5_ofCell_101 : decode cX5_ofCell 101 = .ok (.aload_n 0, 1) := by decide +kernel
theorem dX5_ofCell_102 : decode cX5_ofCell 102 = .ok (.getfield 7, 3) := by decide +kernel
theorem dX5_ofCell_105 : decode cX5_ofCell 105 = .ok (.iload_n 1, 1) := by decide +kernel
theorem dX5_ofCell_106 : decode cX5_ofCell 106 = .ok (.invokevirtual 78, 3) := by decide +kernel
theorem dX5_ofCell_109 : decode cX5_ofCell 109 = .ok (.aload_n 0, 1) := by decide +kernel
theorem dX5_ofCell_110 : decode cX5_ofCell 110 = .ok (.getfield 7, 3) := by decide +kernel
theorem dX5_ofCell_113 : decode cX5_ofCell 113 = .ok (.bipush 6, 2) := by decide +kernel
theorem dX5_ofCell_115 : decode cX5_ofCell 115 = .ok (.iload_n 1, 1) := by decide +kernel
theorem dX5_ofCell_116 : decode cX5_ofCell 116 = .ok (.iadd, 1) := by decide +kernel
theorem dX5_ofCell_117 : decode cX5_ofCell 117 = .ok (.iaload, 1) := by decide +kernel
theorem dX5_ofCell_118 : decode cX5_ofCell 118 = .ok (.if_icmp .ne 7, 3) := by decide +kernel
theorem dX5_ofCell_121 : decode cX5_ofCell 121 = .ok (.iconst 0, 1) := by decide +kernel
theorem dX5_ofCell_122 : decode cX5_ofCell 122 = .ok (.goto 4, 3) := by decide +kernel
theorem dX5_ofCell_125 : decode cX5_ofCell 125 = .ok (.iconst 1, 1) := by decide +kernel
theorem dX5_ofCell_126 : decode cX5_ofCell 126 = .ok (.ireturn, 1) := by decide +kernel
theorem dX5_ofCell_127 : decode cX5_ofCell 127 = .ok (.aload_n 0, 1) := by decide +kernel
theorem dX5_ofCell_128 : decode cX5_ofCell 128 = .ok (.aload_n 0, 1) := by decide +kernel
theorem dX5_ofCell_129 : decode cX5_ofCell 129 = .ok (.getfield 7, 3) := by decide +kernel
theorem dX5_ofCell_132 : decode cX5_ofCell 132 = .ok (.iload_n 1, 1) := by decide +kernel
theorem dX5_ofCell_133 : decode cX5_ofCell 133 = .ok (.invokevirtual 137, 3) := by decide +kernel
theorem dX5_ofCell_136 : decode cX5_ofCell 136 = .ok (.ireturn, 1) := by decide +kernel
set_option maxRecDepth 20000 in
theorem ggX5_cell_X5_isCell : GoodIn wsX5_cell wsX5_isCell := goodIn_r _ [5, 6, 7, 4, 8] (by decide +kernel) (by decide +kernel)
set_option maxRecDepth 20000 in
theorem gX5_cell_X5_isCell : GoodIn wsX5_cell (va_wsS RX5 81 yX5_isCell wsX5_isCell) := goodIn_app (goodIn_of _ (by decide +kernel)) ggX5_cell_X5_isCell
set_option maxRecDepth 20000 in
theorem ggX5_cell_X5_fails : GoodIn wsX5_cell wsX5_fails := goodIn_r _ [12, 1, 54, 55, 56, 57, 58, 59, 60, 61, 62, 63, 64, 65, 66, 67] (by decide +kernel) (by decide +kernel)
set_option maxRecDepth 20000 in
theorem gX5_cell_X5_fails : GoodIn wsX5_cell (wsV RX5 43 RX5 yX5_fails wsX5_fails) := goodIn_app (goodIn_of _ (by decide +kernel)) ggX5_cell_X5_fails
set_option maxRecDepth 20000 in
theorem ggX5_cell_X5_in : GoodIn wsX5_cell wsX5_in := goodIn_r _ [8] (by decide +kernel) (by decide +kernel)
set_option maxRecDepth 20000 in
theorem gX5_cell_X5_in : GoodIn wsX5_cell (va_wsS RX5 32 yX5_in wsX5_in) := goodIn_app (goodIn_of _ (by decide +kernel)) ggX5_cell_X5_in
set_option maxRecDepth 20000 in
theorem ggX5_cell_X5_ofCell : GoodIn wsX5_cell wsX5_ofCell := goodIn_r _ [16, 17, 18, 19, 20, 21, 22, 23, 4, 24, 25, 26, 27, 28, 29, 30, 31, 32, 33, 34, 35, 6, 7, 8, 36, 37, 38, 39, 40, 41, 42, 43, 44, 45, 46, 47, 48, 49, 50, 51, 52, 53, 54, 55, 56, 57, 58, 59, 60, 61, 62, 63, 64, 65, 66, 67] (by decide +kernel) (by decide +kernel)
set_option maxRecDepth 20000 in
theorem gX5_cell_X5_ofCell : GoodIn wsX5_cell (wsV RX5 140 RX5 yX5_ofCell wsX5_ofCell) := goodIn_app (goodIn_of _ (by decide +kernel)) ggX5_cell_X5_ofCell
theorem dX5_cell_0 : decode cX5_cell 0 = .ok (.aload_n 0, 1) := by decide +kernel
theorem dX5_cell_1 : decode cX5_cell 1 = .ok (.iconst 0, 1) := by decide +kernel
theorem dX5_cell_2 : decode cX5_cell 2 = .ok (.putfield 28, 3) := by decide +kernel
theorem dX5_cell_5 : decode cX5_cell 5 = .ok (.iload_n 1, 1) := by decide +kernel
theorem dX5_cell_6 : decode cX5_cell 6 = .ok (.invokestatic 81, 3) := by decide +kernel
theorem dX5_cell_9 : decode cX5_cell 9 = .ok (.ifCond .ne 9, 3) := by decide +kernel
theorem dX5_cell_12 : decode cX5_cell 12 = .ok (.aload_n 0, 1) := by decide +kernel
theorem dX5_cell_13 : decode cX5_cell 13 = .ok (.iconst 1, 1) := by decide +kernel
theorem dX5_cell_14 : decode cX5_cell 14 = .ok (.invokevirtual 43, 3) := by decide +kernel
theorem dX5_cell_17 : decode cX5_cell 17 = .ok (.ireturn, 1) := by decide +kernel
theorem dX5_cell_18 : decode cX5_cell 18 = .ok (.iload_n 2, 1) := by decide +kernel
theorem dX5_cell_19 : decode cX5_cell 19 = .ok (.iconst 0, 1) := by decide +kernel
theorem dX5_cell_20 : decode cX5_cell 20 = .ok (.bipush 7, 2) := by decide +kernel
theorem dX5_cell_22 : decode cX5_cell 22 = .ok (.invokestatic 32, 3) := by decide +kernel
theorem dX5_cell_25 : decode cX5_cell 25 = .ok (.ifCond .eq 12, 3) := by decide +kernel
theorem dX5_cell_28 : decode cX5_cell 28 = .ok (.aload_n 0, 1) := by decide +kernel
theorem dX5_cell_29 : decode cX5_cell 29 = .ok (.iload_n 1, 1) := by decide +kernel
theorem dX5_cell_30 : decode cX5_cell 30 = .ok (.iload_n 2, 1) := by decide +kernel
theorem dX5_cell_31 : decode cX5_cell 31 = .ok (.invokevirtual 140, 3) := by decide +kernel
theorem dX5_cell_34 : decode cX5_cell 34 = .ok (.goto 8, 3) := by decide +kernel
theorem dX5_cell_37 : decode cX5_cell 37 = .ok (.aload_n 0, 1) := by decide +kernel
theorem dX5_cell_38 : decode cX5_cell 38 = .ok (.iconst 2, 1) := by decide +kernel
theorem dX5_cell_39 : decode cX5_cell 39 = .ok (.invokevirtual 43, 3) := by decide +kernel
theorem dX5_cell_42 : decode cX5_cell 42 = .ok (.ireturn, 1) := by decide +kernel
theorem dX5_ofBar_0 : decode cX5_ofBar 0 = .ok (.iconst 0, 1) := by decide +kernel
theorem dX5_ofBar_1 : decode cX5_ofBar 1 = .ok (.istore_n 3, 1) := by decide +kernel
theorem dX5_ofBar_2 : decode cX5_ofBar 2 = .ok (.iconst 0, 1) := by decide +kernel
theorem dX5_ofBar_3 : decode cX5_ofBar 3 = .ok (.istore 4, 2) := by decide +kernel
theorem dX5_ofBar_5 : decode cX5_ofBar 5 = .ok (.iload 4, 2) := by decide +kernel
theorem dX5_ofBar_7 : decode cX5_ofBar 7 = .ok (.bipush 36, 2) := by decide +kernel
theorem dX5_ofBar_9 : decode cX5_ofBar 9 = .ok (.if_icmp .ge 89, 3) := by decide +kernel
theorem dX5_ofBar_12 : decode cX5_ofBar 12 = .ok (.aload_n 0, 1) := by decide +kernel
theorem dX5_ofBar_13 : decode cX5_ofBar 13 = .ok (.getfield 7, 3) := by decide +kernel
theorem dX5_ofBar_16 : decode cX5_ofBar 16 = .ok (.sipush 150, 3) := by decide +kernel
theorem dX5_ofBar_19 : decode cX5_ofBar 19 = .ok (.iload 4, 2) := by decide +kernel
theorem dX5_ofBar_21 : decode cX5_ofBar 21 = .ok (.iadd, 1) := by decide +kernel
theorem dX5_ofBar_22 : decode cX5_ofBar 22 = .ok (.iaload, 1) := by decide +kernel
theorem dX5_ofBar_23 : decode cX5_ofBar 23 = .ok (.ifCond .le 47, 3) := by decide +kernel
theorem dX5_ofBar_26 : decode cX5_ofBar 26 = .ok (.iload_n 3, 1) := by decide +kernel
theorem dX5_ofBar_27 : decode cX5_ofBar 27 = .ok (.iload_n 1, 1) := by decide +kernel
theorem dX5_ofBar_28 : decode cX5_ofBar 28 = .ok (.if_icmp .ne 42, 3) := by decide +kernel
theorem dX5_ofBar_31 : decode cX5_ofBar 31 = .ok (.iload_n 2, 1) := by decide +kernel
theorem dX5_ofBar_32 : decode cX5_ofBar 32 = .ok (.ifCond .ne 8, 3) := by decide +kernel
theorem dX5_ofBar_35 : decode cX5_ofBar 35 = .ok (.iload 4, 2) := by decide +kernel
theorem dX5_ofBar_37 : decode cX5_ofBar 37 = .ok (.goto 32, 3) := by decide +kernel
theorem dX5_ofBar_40 : decode cX5_ofBar 40 = .ok (.iload_n 2, 1) := by decide +kernel
theorem dX5_ofBar_41 : decode cX5_ofBar 41 = .ok (.iconst 1, 1) := by decide +kernel
theorem dX5_ofBar_42 : decode cX5_ofBar 42 = .ok (.if_icmp .ne 16, 3) := by decide +kernel
theorem dX5_ofBar_45 : decode cX5_ofBar 45 = .ok (.aload_n 0, 1) := by decide +kernel
theorem dX5_ofBar_46 : decode cX5_ofBar 46 = .ok (.getfield 7, 3) := by decide +kernel
theorem dX5_ofBar_49 : decode cX5_ofBar 49 = .ok (.bipush 114, 2) := by decide +kernel
theorem dX5_ofBar_51 : decode cX5_ofBar 51 = .ok (.iload 4, 2) := by decide +kernel
theorem dX5_ofBar_53 : decode cX5_ofBar 53 = .ok (.iadd, 1) := by decide +kernel
theorem dX5_ofBar_54 : decode cX5_ofBar 54 = .ok (.iaload, 1) := by decide +kernel
theorem dX5_ofBar_55 : decode cX5_ofBar 55 = .ok (.goto 14, 3) := by decide +kernel
theorem dX5_ofBar_58 : decode cX5_ofBar 58 = .ok (.aload_n 0, 1) := by decide +kernel
theorem dX5_ofBar_59 : decode cX5_ofBar 59 = .ok (.getfield 7, 3) := by decide +kernel
theorem dX5_ofBar_62 : decode cX5_ofBar 62 = .ok (.sipush 150, 3) := by decide +kernel
theorem dX5_ofBar_65 : decode cX5_ofBar 65 = .ok (.iload 4, 2) := by decide +kernel
theorem dX5_ofBar_67 : decode cX5_ofBar 67 = .ok (.iadd, 1) := by decide +kernel
theorem dX5_ofBar_68 : decode cX5_ofBar 68 = .ok (.iaload, 1) := by decide +kernel
theorem dX5_ofBar_69 : decode cX5_ofBar 69 = .ok (.ireturn, 1) := by decide +kernel
theorem dX5_ofBar_70 : decode cX5_ofBar 70 = .ok (.iload_n 3, 1) := by decide +kernel
theorem dX5_ofBar_71 : decode cX5_ofBar 71 = .ok (.aload_n 0, 1) := by decide +kernel
theorem dX5_ofBar_72 : decode cX5_ofBar 72 = .ok (.getfield 7, 3) := by decide +kernel
theorem dX5_ofBar_75 : decode cX5_ofBar 75 = .ok (.sipush 150, 3) := by decide +kernel
theorem dX5_ofBar_78 : decode cX5_ofBar 78 = .ok (.iload 4, 2) := by decide +kernel
theorem dX5_ofBar_80 : decode cX5_ofBar 80 = .ok (.iadd, 1) := by decide +kernel
theorem dX5_ofBar_81 : decode cX5_ofBar 81 = .ok (.iaload, 1) := by decide +kernel
theorem dX5_ofBar_82 : decode cX5_ofBar 82 = .ok (.ifCond .le 7, 3) := by decide +kernel
theorem dX5_ofBar_85 : decode cX5_ofBar 85 = .ok (.iconst 1, 1) := by decide +kernel
theorem dX5_ofBar_86 : decode cX5_ofBar 86 = .ok (.goto 4, 3) := by decide +kernel
theorem dX5_ofBar_89 : decode cX5_ofBar 89 = .ok (.iconst 0, 1) := by decide +kernel
theorem dX5_ofBar_90 : decode cX5_ofBar 90 = .ok (.iadd, 1) := by decide +kernel
theorem dX5_ofBar_91 : decode cX5_ofBar 91 = .ok (.istore_n 3, 1) := by decide +kernel
theorem dX5_ofBar_92 : decode cX5_ofBar 92 = .ok (.iinc 4 1, 3) := by decide +kernel
theorem dX5_ofBar_95 : decode cX5_ofBar 95 = .ok (.goto (-90), 3) := by decide +kernel
theorem dX5_ofBar_98 : decode cX5_ofBar 98 = .ok (.iconst (-1), 1) := by decide +kernel
theorem dX5_ofBar_99 : decode cX5_ofBar 99 = .ok (.ireturn, 1) := by decide +kernel
set_option maxRecDepth 20000 in
theorem ggX5_barOf_X5_in : GoodIn wsX5_barOf wsX5_in := goodIn_r _ [5] (by decide +kernel) (by decide +kernel)
set_option maxRecDepth 20000 in
theorem gX5_barOf_X5_in : GoodIn wsX5_barOf (va_wsS RX5 32 yX5_in wsX5_in) := goodIn_app (goodIn_of _ (by decide +kernel)) ggX5_barOf_X5_in
set_option maxRecDepth 20000 in
theorem ggX5_barOf_X5_ofBar : GoodIn wsX5_barOf wsX5_ofBar := goodIn_r _ [9, 10, 15, 16, 17, 18, 19, 20, 21, 22, 23, 24, 25, 26, 27, 28] (by decide +kernel) (by decide +kernel)
set_option maxRecDepth 20000 in
theorem gX5_barOf_X5_ofBar : GoodIn wsX5_barOf (wsV RX5 143 RX5 yX5_ofBar wsX5_ofBar) := goodIn_app (goodIn_of _ (by decide +kernel)) ggX5_barOf_X5_ofBar
set_option maxRecDepth 20000 in
theorem ggX5_barOf_X5_fails : GoodIn wsX5_barOf wsX5_fails := goodIn_r _ [14, 1, 15, 16, 17, 18, 19, 20, 21, 22, 23, 24, 25, 26, 27, 28] (by decide +kernel) (by decide +kernel)
set_option maxRecDepth 20000 in
theorem gX5_barOf_X5_fails : GoodIn wsX5_barOf (wsV RX5 43 RX5 yX5_fails wsX5_fails) := goodIn_app (goodIn_of _ (by decide +kernel)) ggX5_barOf_X5_fails
theorem dX5_barOf_0 : decode cX5_barOf 0 = .ok (.aload_n 0, 1) := by decide +kernel
theorem dX5_barOf_1 : decode cX5_barOf 1 = .ok (.iconst 0, 1) := by decide +kernel
theorem dX5_barOf_2 : decode cX5_barOf 2 = .ok (.putfield 28, 3) := by decide +kernel
theorem dX5_barOf_5 : decode cX5_barOf 5 = .ok (.iload_n 1, 1) := by decide +kernel
theorem dX5_barOf_6 : decode cX5_barOf 6 = .ok (.ifCond .lt 21, 3) := by decide +kernel
