theorem dL_act_169 : decode cL_act 169 = .ok (.ireturn, 1) := by decide +kernel
theorem dL_act_170 : decode cL_act 170 = .ok (.aload_n 0, 1) := by decide +kernel
theorem dL_act_171 : decode cL_act 171 = .ok (.iload 5, 2) := by decide +kernel
theorem dL_act_173 : decode cL_act 173 = .ok (.iload 4, 2) := by decide +kernel
theorem dL_act_175 : decode cL_act 175 = .ok (.bipush 36, 2) := by decide +kernel
theorem dL_act_177 : decode cL_act 177 = .ok (.invokestatic 51, 3) := by decide +kernel
theorem dL_act_180 : decode cL_act 180 = .ok (.invokevirtual 64, 3) := by decide +kernel
theorem dL_act_183 : decode cL_act 183 = .ok (.ireturn, 1) := by decide +kernel
theorem dL_act_184 : decode cL_act 184 = .ok (.aload_n 0, 1) := by decide +kernel
theorem dL_act_185 : decode cL_act 185 = .ok (.iload 5, 2) := by decide +kernel
theorem dL_act_187 : decode cL_act 187 = .ok (.iload 4, 2) := by decide +kernel
theorem dL_act_189 : decode cL_act 189 = .ok (.bipush 8, 2) := by decide +kernel
theorem dL_act_191 : decode cL_act 191 = .ok (.invokestatic 51, 3) := by decide +kernel
theorem dL_act_194 : decode cL_act 194 = .ok (.iconst 1, 1) := by decide +kernel
theorem dL_act_195 : decode cL_act 195 = .ok (.iload 4, 2) := by decide +kernel
theorem dL_act_197 : decode cL_act 197 = .ok (.iconst 3, 1) := by decide +kernel
theorem dL_act_198 : decode cL_act 198 = .ok (.ishr, 1) := by decide +kernel
theorem dL_act_199 : decode cL_act 199 = .ok (.bipush 50, 2) := by decide +kernel
theorem dL_act_201 : decode cL_act 201 = .ok (.invokestatic 51, 3) := by decide +kernel
theorem dL_act_204 : decode cL_act 204 = .ok (.iadd, 1) := by decide +kernel
theorem dL_act_205 : decode cL_act 205 = .ok (.invokestatic 67, 3) := by decide +kernel
theorem dL_act_208 : decode cL_act 208 = .ok (.ireturn, 1) := by decide +kernel
theorem dL_act_209 : decode cL_act 209 = .ok (.aload_n 0, 1) := by decide +kernel
theorem dL_act_210 : decode cL_act 210 = .ok (.aload_n 0, 1) := by decide +kernel
theorem dL_act_211 : decode cL_act 211 = .ok (.iconst 1, 1) := by decide +kernel
theorem dL_act_212 : decode cL_act 212 = .ok (.invokevirtual 25, 3) := by decide +kernel
theorem dL_act_215 : decode cL_act 215 = .ok (.ifCond .le 30, 3) := by decide +kernel
theorem dL_act_218 : decode cL_act 218 = .ok (.iload 4, 2) := by decide +kernel
theorem dL_act_220 : decode cL_act 220 = .ok (.iconst 3, 1) := by decide +kernel
theorem dL_act_221 : decode cL_act 221 = .ok (.invokestatic 51, 3) := by decide +kernel
theorem dL_act_224 : decode cL_act 224 = .ok (.ifCond .le 21, 3) := by decide +kernel
theorem dL_act_227 : decode cL_act 227 = .ok (.aload_n 0, 1) := by decide +kernel
theorem dL_act_228 : decode cL_act 228 = .ok (.iload 4, 2) := by decide +kernel
theorem dL_act_230 : decode cL_act 230 = .ok (.aload_n 0, 1) := by decide +kernel
theorem dL_act_231 : decode cL_act 231 = .ok (.iconst 1, 1) := by decide +kernel
theorem dL_act_232 : decode cL_act 232 = .ok (.invokevirtual 25, 3) := by decide +kernel
theorem dL_act_235 : decode cL_act 235 = .ok (.invokestatic 51, 3) := by decide +kernel
theorem dL_act_238 : decode cL_act 238 = .ok (.iconst 0, 1) := by decide +kernel
theorem dL_act_239 : decode cL_act 239 = .ok (.invokevirtual 41, 3) := by decide +kernel
theorem dL_act_242 : decode cL_act 242 = .ok (.goto 5, 3) := by decide +kernel
theorem dL_act_245 : decode cL_act 245 = .ok (.iload 5, 2) := by decide +kernel
theorem dL_act_247 : decode cL_act 247 = .ok (.invokestatic 70, 3) := by decide +kernel
theorem dL_act_250 : decode cL_act 250 = .ok (.ireturn, 1) := by decide +kernel
theorem dL_act_251 : decode cL_act 251 = .ok (.aload_n 0, 1) := by decide +kernel
theorem dL_act_252 : decode cL_act 252 = .ok (.iload 4, 2) := by decide +kernel
theorem dL_act_254 : decode cL_act 254 = .ok (.bipush 51, 2) := by decide +kernel
theorem dL_act_256 : decode cL_act 256 = .ok (.invokestatic 51, 3) := by decide +kernel
theorem dL_act_259 : decode cL_act 259 = .ok (.iload_n 3, 1) := by decide +kernel
theorem dL_act_260 : decode cL_act 260 = .ok (.bipush 8, 2) := by decide +kernel
theorem dL_act_262 : decode cL_act 262 = .ok (.invokestatic 51, 3) := by decide +kernel
theorem dL_act_265 : decode cL_act 265 = .ok (.invokevirtual 73, 3) := by decide +kernel
theorem dL_act_268 : decode cL_act 268 = .ok (.ireturn, 1) := by decide +kernel
theorem dL_act_269 : decode cL_act 269 = .ok (.aload_n 0, 1) := by decide +kernel
theorem dL_act_270 : decode cL_act 270 = .ok (.iconst 0, 1) := by decide +kernel
theorem dL_act_271 : decode cL_act 271 = .ok (.iload 4, 2) := by decide +kernel
theorem dL_act_273 : decode cL_act 273 = .ok (.sipush 201, 3) := by decide +kernel
theorem dL_act_276 : decode cL_act 276 = .ok (.invokestatic 51, 3) := by decide +kernel
theorem dL_act_279 : decode cL_act 279 = .ok (.invokevirtual 76, 3) := by decide +kernel
theorem dL_act_282 : decode cL_act 282 = .ok (.ireturn, 1) := by decide +kernel
theorem dL_act_283 : decode cL_act 283 = .ok (.iload_n 3, 1) := by decide +kernel
theorem dL_act_284 : decode cL_act 284 = .ok (.iconst 2, 1) := by decide +kernel
theorem dL_act_285 : decode cL_act 285 = .ok (.invokestatic 51, 3) := by decide +kernel
theorem dL_act_288 : decode cL_act 288 = .ok (.ifCond .ne 18, 3) := by decide +kernel
theorem dL_act_291 : decode cL_act 291 = .ok (.aload_n 0, 1) := by decide +kernel
theorem dL_act_292 : decode cL_act 292 = .ok (.iconst 1, 1) := by decide +kernel
theorem dL_act_293 : decode cL_act 293 = .ok (.iload 4, 2) := by decide +kernel
theorem dL_act_295 : decode cL_act 295 = .ok (.bipush 21, 2) := by decide +kernel
theorem dL_act_297 : decode cL_act 297 = .ok (.invokestatic 51, 3) := by decide +kernel
theorem dL_act_300 : decode cL_act 300 = .ok (.invokevirtual 76, 3) := by decide +kernel
theorem dL_act_303 : decode cL_act 303 = .ok (.goto 15, 3) := by decide +kernel
theorem dL_act_306 : decode cL_act 306 = .ok (.aload_n 0, 1) := by decide +kernel
theorem dL_act_307 : decode cL_act 307 = .ok (.iconst 2, 1) := by decide +kernel
theorem dL_act_308 : decode cL_act 308 = .ok (.iload 4, 2) := by decide +kernel
theorem dL_act_310 : decode cL_act 310 = .ok (.bipush 51, 2) := by decide +kernel
theorem dL_act_312 : decode cL_act 312 = .ok (.invokestatic 51, 3) := by decide +kernel
theorem dL_act_315 : decode cL_act 315 = .ok (.invokevirtual 76, 3) := by decide +kernel
theorem dL_act_318 : decode cL_act 318 = .ok (.ireturn, 1) := by decide +kernel
theorem dL_act_319 : decode cL_act 319 = .ok (.aload_n 0, 1) := by decide +kernel
theorem dL_act_320 : decode cL_act 320 = .ok (.iconst 1, 1) := by decide +kernel
theorem dL_act_321 : decode cL_act 321 = .ok (.iload_n 3, 1) := by decide +kernel
theorem dL_act_322 : decode cL_act 322 = .ok (.iconst 5, 1) := by decide +kernel
theorem dL_act_323 : decode cL_act 323 = .ok (.invokestatic 51, 3) := by decide +kernel
theorem dL_act_326 : decode cL_act 326 = .ok (.iadd, 1) := by decide +kernel
theorem dL_act_327 : decode cL_act 327 = .ok (.invokevirtual 79, 3) := by decide +kernel
theorem dL_act_330 : decode cL_act 330 = .ok (.ireturn, 1) := by decide +kernel
theorem dL_act_331 : decode cL_act 331 = .ok (.aload_n 0, 1) := by decide +kernel
theorem dL_act_332 : decode cL_act 332 = .ok (.invokestatic 82, 3) := by decide +kernel
theorem dL_act_335 : decode cL_act 335 = .ok (.ireturn, 1) := by decide +kernel
set_option maxRecDepth 20000 in
theorem ggL_law_X4_init : GoodIn wsL_law wsX4_init := goodIn_r _ [5, 6, 7, 8, 9, 10, 11, 12, 13, 14, 15, 16, 17, 18, 19, 20, 21, 22, 23, 24, 25, 26, 27, 28, 29, 30, 31, 32, 33, 34, 35, 36, 37, 38, 39, 40, 41, 42, 43, 44, 2, 45, 46, 47, 48, 49, 50, 51, 52, 53, 54, 55, 56, 57, 58, 59, 60, 61, 62, 63, 64, 65, 66, 67, 68, 69, 70, 71, 72, 73, 74, 75, 76, 77, 78, 79, 80, 81, 82, 83, 84, 85, 86, 87, 88, 89, 90, 91, 307, 308, 309, 310, 311, 312, 313, 314, 315, 316, 317, 318, 319, 303, 304, 305, 306, 320, 321, 322, 323, 324, 325, 326, 327, 328, 329, 330, 331] (by decide +kernel) (by decide +kernel)
set_option maxRecDepth 20000 in
theorem gL_law_X4_init : GoodIn wsL_law (wsX4_init) := ggL_law_X4_init
set_option maxRecDepth 20000 in
theorem ggL_law_X4_count : GoodIn wsL_law wsX4_count := goodIn_ca (goodIn_r _ [95, 96, 97, 12, 17, 98, 99, 100, 11, 101, 50, 51, 52, 53, 32, 102, 103, 104, 105, 30, 106, 107, 108, 109, 110, 111, 112, 113, 27, 114, 115, 116, 117, 36, 37, 28, 118, 2, 119, 120, 121, 122, 123, 124, 125, 126, 127, 128, 129, 130, 131, 132, 133, 134, 135, 136, 137, 303, 304, 305, 306, 307, 308, 309, 310, 311, 312, 313, 314, 315, 316, 317, 318, 319, 320, 321, 322] (by decide +kernel) (by decide +kernel)) (goodIn_sub (fun _ h => List.mem_append_left _ (List.mem_append_left _ (List.mem_append_right _ h))) (by decide +kernel))
set_option maxRecDepth 20000 in
theorem gL_law_X4_count : GoodIn wsL_law (wsV RL 25 RX4 yX4_count wsX4_count) := goodIn_app (goodIn_of _ (by decide +kernel)) ggL_law_X4_count
set_option maxRecDepth 20000 in
theorem ggL_law_L_cell : GoodIn wsL_law wsL_cell := goodIn_r _ [141, 142] (by decide +kernel) (by decide +kernel)
set_option maxRecDepth 20000 in
theorem gL_law_L_cell : GoodIn wsL_law (va_wsS RL 48 yL_cell wsL_cell) := goodIn_app (goodIn_of _ (by decide +kernel)) ggL_law_L_cell
set_option maxRecDepth 20000 in
theorem ggL_law_L_low : GoodIn wsL_law wsL_low := goodIn_r _ [145, 146] (by decide +kernel) (by decide +kernel)
set_option maxRecDepth 20000 in
theorem gL_law_L_low : GoodIn wsL_law (va_wsS RL 51 yL_low wsL_low) := goodIn_app (goodIn_of _ (by decide +kernel)) ggL_law_L_low
set_option maxRecDepth 20000 in
theorem ggL_law_X4_points : GoodIn wsL_law wsX4_points := goodIn_ca (goodIn_ca (goodIn_r _ [150, 13, 12, 151, 152, 2, 153, 154, 155, 156, 157, 158, 96, 97, 159, 160, 161, 11, 162, 27, 28, 30, 31, 32, 34, 35, 36, 37, 33, 42, 43, 163, 164, 165, 166, 167, 168, 169, 170, 171, 114, 115, 116, 117, 118, 119, 120, 121, 62, 63, 64, 65, 66, 67, 68, 69, 44, 45, 46, 47, 48, 49, 70, 71, 72, 73, 303, 304, 305, 306, 307, 308, 309, 310, 311, 312, 313, 314, 315, 316, 317, 318, 319] (by decide +kernel) (by decide +kernel)) (goodIn_sub (fun _ h => List.mem_append_left _ (List.mem_append_right _ h)) (by decide +kernel))) (goodIn_sub (fun _ h => List.mem_append_left _ (List.mem_append_left _ (List.mem_append_right _ h))) (by decide +kernel))
set_option maxRecDepth 20000 in
theorem gL_law_X4_points : GoodIn wsL_law (wsV RL 86 RX4 yX4_points wsX4_points) := goodIn_app (goodIn_of _ (by decide +kernel)) ggL_law_X4_points
set_option maxRecDepth 20000 in
theorem ggL_law_L_act : GoodIn wsL_law wsL_act := goodIn_ca (goodIn_ca (goodIn_ca (goodIn_r _ [174, 138, 139, 140, 141, 142, 143, 144, 145, 146, 175, 176, 177, 2, 178, 17, 12, 151, 152, 153, 154, 155, 179, 180, 181, 156, 157, 158, 96, 97, 182, 183, 184, 16, 185, 79, 186, 187, 188, 160, 161, 11, 162, 27, 28, 30, 31, 32, 34, 35, 36, 37, 33, 42, 43, 163, 189, 63, 64, 65, 66, 67, 68, 69, 44, 45, 46, 47, 48, 49, 70, 71, 72, 73, 190, 191, 192, 193, 194, 195, 196, 197, 198, 199, 200, 201, 202, 203, 204, 205, 206, 207, 208, 209, 210, 211, 212, 213, 214, 215, 51, 52, 53, 98, 99, 100, 101, 50, 216, 217, 218, 219, 220, 39, 40, 41, 54, 55, 56, 57, 58, 59, 60, 61, 62, 92, 93, 94, 95, 102, 103, 104, 105, 106, 107, 108, 109, 110, 111, 112, 113, 114, 115, 116, 117, 118, 119, 120, 121, 122, 123, 124, 125, 126, 127, 128, 129, 130, 131, 132, 133, 134, 135, 136, 137, 221, 222, 223, 224, 225, 226, 227, 228, 229, 230, 231, 232, 233, 234, 235, 236, 237, 238, 239, 240, 241, 242, 243, 244, 245, 246, 247, 248, 249, 250, 251, 252, 253, 254, 255, 256, 164, 165, 166, 167, 168, 169, 170, 171, 257, 258, 259, 260, 261, 262, 263, 264, 265, 266, 267, 303, 304, 305, 306, 307, 308, 309, 310, 311, 312, 313, 314, 315, 316, 317, 318, 319, 320, 321, 322] (by decide +kernel) (by decide +kernel)) (goodIn_sub (fun _ h => List.mem_append_left _ (List.mem_append_right _ h)) (by decide +kernel))) (goodIn_sub (fun _ h => List.mem_append_left _ (List.mem_append_left _ (List.mem_append_right _ h))) (by decide +kernel))) (goodIn_sub (fun _ h => List.mem_append_right _ h) (by decide +kernel))
set_option maxRecDepth 20000 in
theorem gL_law_L_act : GoodIn wsL_law (va_wsS RL 89 yL_act wsL_act) := goodIn_app (goodIn_of _ (by decide +kernel)) ggL_law_L_act
set_option maxRecDepth 20000 in
theorem ggL_law_X4_cell : GoodIn wsL_law wsX4_cell := goodIn_ca (goodIn_ca (goodIn_r _ [271, 96, 97, 12, 272, 151, 152, 2, 153, 154, 155, 273, 127, 128, 11, 129, 36, 37, 118, 119, 274, 111, 112, 113, 27, 114, 115, 116, 117, 30, 28, 120, 121, 275, 135, 136, 137, 126, 303, 304, 305, 306, 307, 308, 309, 310, 311, 312, 313, 314, 315, 316, 317, 318, 319] (by decide +kernel) (by decide +kernel)) (goodIn_sub (fun _ h => List.mem_append_left _ (List.mem_append_left _ (List.mem_append_right _ h))) (by decide +kernel))) (goodIn_sub (fun _ h => List.mem_append_left _ (List.mem_append_right _ h)) (by decide +kernel))
set_option maxRecDepth 20000 in
theorem gL_law_X4_cell : GoodIn wsL_law (wsV RL 28 RX4 yX4_cell wsX4_cell) := goodIn_app (goodIn_of _ (by decide +kernel)) ggL_law_X4_cell
set_option maxRecDepth 20000 in
theorem ggL_law_L_grid : GoodIn wsL_law wsL_grid := goodIn_ca (goodIn_ca (goodIn_r _ [278, 279, 92, 93, 94, 2, 95, 96, 97, 12, 17, 98, 99, 100, 11, 101, 50, 51, 52, 53, 32, 102, 103, 104, 105, 30, 106, 107, 108, 109, 110, 111, 112, 113, 27, 114, 115, 116, 117, 36, 37, 28, 118, 119, 120, 121, 122, 123, 124, 125, 126, 127, 128, 129, 130, 131, 132, 133, 134, 135, 136, 137, 268, 269, 270, 271, 272, 151, 152, 153, 154, 155, 273, 274, 275, 280, 281, 140, 282, 283, 284, 285, 286, 179, 180, 181, 156, 157, 158, 287, 288, 289, 290, 221, 222, 223, 224, 225, 226, 227, 228, 291, 292, 293, 294, 295, 296, 297, 298, 303, 304, 305, 306, 307, 308, 309, 310, 311, 312, 313, 314, 315, 316, 317, 318, 319, 320, 321, 322] (by decide +kernel) (by decide +kernel)) (goodIn_sub (fun _ h => List.mem_append_left _ (List.mem_append_left _ (List.mem_append_right _ h))) (by decide +kernel))) (goodIn_sub (fun _ h => List.mem_append_left _ (List.mem_append_right _ h)) (by decide +kernel))
set_option maxRecDepth 20000 in
theorem gL_law_L_grid : GoodIn wsL_law (va_wsS RL 93 yL_grid wsL_grid) := goodIn_app (goodIn_of _ (by decide +kernel)) ggL_law_L_grid
set_option maxRecDepth 20000 in
theorem ggL_law_X4_restsIn : GoodIn wsL_law wsX4_restsIn := goodIn_r _ [302, 13, 12, 159, 160, 161, 11, 162, 27, 28, 30, 31, 32, 34, 35, 36, 37, 33, 42, 43, 163, 164, 165, 166, 167, 168, 169, 170, 171, 114, 115, 116, 117, 118, 2, 119, 120, 121, 62, 63, 64, 65, 66, 67, 68, 69, 44, 45, 46, 47, 48, 49, 70, 71, 72, 73, 303, 304, 305, 306, 307, 308, 309, 310, 311, 312, 313, 314, 315, 316, 317, 318, 319] (by decide +kernel) (by decide +kernel)
set_option maxRecDepth 20000 in
theorem gL_law_X4_restsIn : GoodIn wsL_law (wsV RL 97 RX4 yX4_restsIn wsX4_restsIn) := goodIn_app (goodIn_of _ (by decide +kernel)) ggL_law_X4_restsIn
set_option maxRecDepth 20000 in
theorem ggL_law_X4_step : GoodIn wsL_law wsX4_step := goodIn_ca (goodIn_r _ [256, 17, 12, 156, 157, 2, 158, 96, 97, 182, 183, 184, 16, 185, 79, 186, 187, 188, 160, 161, 11, 162, 27, 28, 30, 31, 32, 34, 35, 36, 37, 33, 42, 43, 163, 164, 165, 166, 167, 168, 169, 170, 171, 114, 115, 116, 117, 118, 119, 120, 121, 62, 63, 64, 65, 66, 67, 68, 69, 44, 45, 46, 47, 48, 49, 70, 71, 72, 73, 303, 304, 305, 306, 320, 321, 322, 307, 308, 309, 310, 311, 312, 313, 314, 315, 316, 317, 318, 319] (by decide +kernel) (by decide +kernel)) (goodIn_sub (fun _ h => List.mem_append_left _ (List.mem_append_left _ (List.mem_append_right _ h))) (by decide +kernel))
set_option maxRecDepth 20000 in
theorem gL_law_X4_step : GoodIn wsL_law (wsV RL 79 RX4 yX4_step wsX4_step) := goodIn_app (goodIn_of _ (by decide +kernel)) ggL_law_X4_step
theorem dL_law_0 : decode cL_law 0 = .ok (.new 10, 3) := by decide +kernel
theorem dL_law_3 : decode cL_law 3 = .ok (.dup, 1) := by decide +kernel
theorem dL_law_4 : decode cL_law 4 = .ok (.invokespecial 85, 3) := by decide +kernel
theorem dL_law_7 : decode cL_law 7 = .ok (.astore_n 1, 1) := by decide +kernel
theorem dL_law_8 : decode cL_law 8 = .ok (.iconst 1, 1) := by decide +kernel
theorem dL_law_9 : decode cL_law 9 = .ok (.istore_n 2, 1) := by decide +kernel
theorem dL_law_10 : decode cL_law 10 = .ok (.aload_n 0, 1) := by decide +kernel
theorem dL_law_11 : decode cL_law 11 = .ok (.arraylength, 1) := by decide +kernel
theorem dL_law_12 : decode cL_law 12 = .ok (.iconst 3, 1) := by decide +kernel
theorem dL_law_13 : decode cL_law 13 = .ok (.idiv, 1) := by decide +kernel
theorem dL_law_14 : decode cL_law 14 = .ok (.bipush 30, 2) := by decide +kernel
theorem dL_law_16 : decode cL_law 16 = .ok (.if_icmp .le 8, 3) := by decide +kernel
theorem dL_law_19 : decode cL_law 19 = .ok (.bipush 30, 2) := by decide +kernel
theorem dL_law_21 : decode cL_law 21 = .ok (.goto 7, 3) := by decide +kernel
theorem dL_law_24 : decode cL_law 24 = .ok (.aload_n 0, 1) := by decide +kernel
theorem dL_law_25 : decode cL_law 25 = .ok (.arraylength, 1) := by decide +kernel
theorem dL_law_26 : decode cL_law 26 = .ok (.iconst 3, 1) := by decide +kernel
theorem dL_law_27 : decode cL_law 27 = .ok (.idiv, 1) := by decide +kernel
theorem dL_law_28 : decode cL_law 28 = .ok (.istore_n 3, 1) := by decide +kernel
theorem dL_law_29 : decode cL_law 29 = .ok (.iconst 0, 1) := by decide +kernel
theorem dL_law_30 : decode cL_law 30 = .ok (.istore 4, 2) := by decide +kernel
theorem dL_law_32 : decode cL_law 32 = .ok (.iload 4, 2) := by decide +kernel
theorem dL_law_34 : decode cL_law 34 = .ok (.iload_n 3, 1) := by decide +kernel
theorem dL_law_35 : decode cL_law 35 = .ok (.if_icmp .ge 258, 3) := by decide +kernel
theorem dL_law_38 : decode cL_law 38 = .ok (.iload_n 2, 1) := by decide +kernel
theorem dL_law_39 : decode cL_law 39 = .ok (.ifCond .eq 254, 3) := by decide +kernel
theorem dL_law_42 : decode cL_law 42 = .ok (.aload_n 1, 1) := by decide +kernel
theorem dL_law_43 : decode cL_law 43 = .ok (.bipush 8, 2) := by decide +kernel
theorem dL_law_45 : decode cL_law 45 = .ok (.invokevirtual 25, 3) := by decide +kernel
theorem dL_law_48 : decode cL_law 48 = .ok (.istore 5, 2) := by decide +kernel
theorem dL_law_50 : decode cL_law 50 = .ok (.aload_n 1, 1) := by decide +kernel
theorem dL_law_51 : decode cL_law 51 = .ok (.iconst 1, 1) := by decide +kernel
theorem dL_law_52 : decode cL_law 52 = .ok (.invokevirtual 25, 3) := by decide +kernel
theorem dL_law_55 : decode cL_law 55 = .ok (.istore 6, 2) := by decide +kernel
theorem dL_law_57 : decode cL_law 57 = .ok (.aload_n 1, 1) := by decide +kernel
theorem dL_law_58 : decode cL_law 58 = .ok (.iconst 0, 1) := by decide +kernel
theorem dL_law_59 : decode cL_law 59 = .ok (.invokevirtual 25, 3) := by decide +kernel
theorem dL_law_62 : decode cL_law 62 = .ok (.istore 7, 2) := by decide +kernel
theorem dL_law_64 : decode cL_law 64 = .ok (.aload_n 1, 1) := by decide +kernel
theorem dL_law_65 : decode cL_law 65 = .ok (.iconst 5, 1) := by decide +kernel
theorem dL_law_66 : decode cL_law 66 = .ok (.invokevirtual 25, 3) := by decide +kernel
theorem dL_law_69 : decode cL_law 69 = .ok (.istore 8, 2) := by decide +kernel
theorem dL_law_71 : decode cL_law 71 = .ok (.aload_n 0, 1) := by decide +kernel
theorem dL_law_72 : decode cL_law 72 = .ok (.iconst 3, 1) := by decide +kernel
theorem dL_law_73 : decode cL_law 73 = .ok (.iload 4, 2) := by decide +kernel
theorem dL_law_75 : decode cL_law 75 = .ok (.imul, 1) := by decide +kernel
theorem dL_law_76 : decode cL_law 76 = .ok (.invokestatic 48, 3) := by decide +kernel
theorem dL_law_79 : decode cL_law 79 = .ok (.bipush 20, 2) := by decide +kernel
theorem dL_law_81 : decode cL_law 81 = .ok (.invokestatic 51, 3) := by decide +kernel
theorem dL_law_84 : decode cL_law 84 = .ok (.istore 9, 2) := by decide +kernel
theorem dL_law_86 : decode cL_law 86 = .ok (.aload_n 0, 1) := by decide +kernel
theorem dL_law_87 : decode cL_law 87 = .ok (.iconst 3, 1) := by decide +kernel
theorem dL_law_88 : decode cL_law 88 = .ok (.iload 4, 2) := by decide +kernel
theorem dL_law_90 : decode cL_law 90 = .ok (.imul, 1) := by decide +kernel
theorem dL_law_91 : decode cL_law 91 = .ok (.iconst 1, 1) := by decide +kernel
theorem dL_law_92 : decode cL_law 92 = .ok (.iadd, 1) := by decide +kernel
theorem dL_law_93 : decode cL_law 93 = .ok (.invokestatic 48, 3) := by decide +kernel
theorem dL_law_96 : decode cL_law 96 = .ok (.istore 10, 2) := by decide +kernel
theorem dL_law_98 : decode cL_law 98 = .ok (.iload 10, 2) := by decide +kernel
theorem dL_law_100 : decode cL_law 100 = .ok (.bipush 6, 2) := by decide +kernel
theorem dL_law_102 : decode cL_law 102 = .ok (.ishr, 1) := by decide +kernel
theorem dL_law_103 : decode cL_law 103 = .ok (.bipush 36, 2) := by decide +kernel
theorem dL_law_105 : decode cL_law 105 = .ok (.invokestatic 51, 3) := by decide +kernel
theorem dL_law_108 : decode cL_law 108 = .ok (.istore 11, 2) := by decide +kernel
theorem dL_law_110 : decode cL_law 110 = .ok (.iconst 1, 1) := by decide +kernel
theorem dL_law_111 : decode cL_law 111 = .ok (.iload 10, 2) := by decide +kernel
theorem dL_law_113 : decode cL_law 113 = .ok (.iconst 5, 1) := by decide +kernel
theorem dL_law_114 : decode cL_law 114 = .ok (.invokestatic 51, 3) := by decide +kernel
theorem dL_law_117 : decode cL_law 117 = .ok (.iadd, 1) := by decide +kernel
theorem dL_law_118 : decode cL_law 118 = .ok (.istore 12, 2) := by decide +kernel
theorem dL_law_120 : decode cL_law 120 = .ok (.aload_n 1, 1) := by decide +kernel
theorem dL_law_121 : decode cL_law 121 = .ok (.iload 11, 2) := by decide +kernel
theorem dL_law_123 : decode cL_law 123 = .ok (.iload 12, 2) := by decide +kernel
theorem dL_law_125 : decode cL_law 125 = .ok (.invokevirtual 86, 3) := by decide +kernel
theorem dL_law_128 : decode cL_law 128 = .ok (.istore 13, 2) := by decide +kernel
theorem dL_law_130 : decode cL_law 130 = .ok (.aload_n 1, 1) := by decide +kernel
theorem dL_law_131 : decode cL_law 131 = .ok (.aload_n 0, 1) := by decide +kernel
theorem dL_law_132 : decode cL_law 132 = .ok (.iconst 3, 1) := by decide +kernel
theorem dL_law_133 : decode cL_law 133 = .ok (.iload 4, 2) := by decide +kernel
theorem dL_law_135 : decode cL_law 135 = .ok (.imul, 1) := by decide +kernel
theorem dL_law_136 : decode cL_law 136 = .ok (.invokestatic 89, 3) := by decide +kernel
theorem dL_law_139 : decode cL_law 139 = .ok (.istore 14, 2) := by decide +kernel
theorem dL_law_141 : decode cL_law 141 = .ok (.iload 14, 2) := by decide +kernel
theorem dL_law_143 : decode cL_law 143 = .ok (.ifCond .ge 44, 3) := by decide +kernel
theorem dL_law_146 : decode cL_law 146 = .ok (.aload_n 1, 1) := by decide +kernel
theorem dL_law_147 : decode cL_law 147 = .ok (.bipush 8, 2) := by decide +kernel
theorem dL_law_149 : decode cL_law 149 = .ok (.invokevirtual 25, 3) := by decide +kernel
theorem dL_law_152 : decode cL_law 152 = .ok (.iload 5, 2) := by decide +kernel
theorem dL_law_154 : decode cL_law 154 = .ok (.if_icmp .ne 37, 3) := by decide +kernel
theorem dL_law_157 : decode cL_law 157 = .ok (.aload_n 1, 1) := by decide +kernel
theorem dL_law_158 : decode cL_law 158 = .ok (.iconst 1, 1) := by decide +kernel
theorem dL_law_159 : decode cL_law 159 = .ok (.invokevirtual 25, 3) := by decide +kernel
theorem dL_law_162 : decode cL_law 162 = .ok (.iload 6, 2) := by decide +kernel
theorem dL_law_164 : decode cL_law 164 = .ok (.if_icmp .ne 27, 3) := by decide +kernel
theorem dL_law_167 : decode cL_law 167 = .ok (.aload_n 1, 1) := by decide +kernel
theorem dL_law_168 : decode cL_law 168 = .ok (.iconst 0, 1) := by decide +kernel
theorem dL_law_169 : decode cL_law 169 = .ok (.invokevirtual 25, 3) := by decide +kernel
theorem dL_law_172 : decode cL_law 172 = .ok (.iload 7, 2) := by decide +kernel
theorem dL_law_174 : decode cL_law 174 = .ok (.if_icmp .ne 17, 3) := by decide +kernel
theorem dL_law_177 : decode cL_law 177 = .ok (.aload_n 1, 1) := by decide +kernel
theorem dL_law_178 : decode cL_law 178 = .ok (.iconst 5, 1) := by decide +kernel
theorem dL_law_179 : decode cL_law 179 = .ok (.invokevirtual 25, 3) := by decide +kernel
theorem dL_law_182 : decode cL_law 182 = .ok (.iload 8, 2) := by decide +kernel
theorem dL_law_184 : decode cL_law 184 = .ok (.if_icmp .ne 7, 3) := by decide +kernel
theorem dL_law_187 : decode cL_law 187 = .ok (.iconst 1, 1) := by decide +kernel
theorem dL_law_188 : decode cL_law 188 = .ok (.goto 4, 3) := by decide +kernel
theorem dL_law_191 : decode cL_law 191 = .ok (.iconst 0, 1) := by decide +kernel
theorem dL_law_192 : decode cL_law 192 = .ok (.istore_n 2, 1) := by decide +kernel
theorem dL_law_193 : decode cL_law 193 = .ok (.iload_n 2, 1) := by decide +kernel
theorem dL_law_194 : decode cL_law 194 = .ok (.ifCond .eq 91, 3) := by decide +kernel
theorem dL_law_197 : decode cL_law 197 = .ok (.iload 9, 2) := by decide +kernel
theorem dL_law_199 : decode cL_law 199 = .ok (.bipush 15, 2) := by decide +kernel
theorem dL_law_201 : decode cL_law 201 = .ok (.if_icmp .lt 58, 3) := by decide +kernel
theorem dL_law_204 : decode cL_law 204 = .ok (.iload 9, 2) := by decide +kernel
theorem dL_law_206 : decode cL_law 206 = .ok (.bipush 17, 2) := by decide +kernel
theorem dL_law_208 : decode cL_law 208 = .ok (.if_icmp .gt 51, 3) := by decide +kernel
theorem dL_law_211 : decode cL_law 211 = .ok (.aload_n 1, 1) := by decide +kernel
theorem dL_law_212 : decode cL_law 212 = .ok (.iconst 0, 1) := by decide +kernel
theorem dL_law_213 : decode cL_law 213 = .ok (.invokevirtual 25, 3) := by decide +kernel
theorem dL_law_216 : decode cL_law 216 = .ok (.iload 7, 2) := by decide +kernel
theorem dL_law_218 : decode cL_law 218 = .ok (.iload 12, 2) := by decide +kernel
theorem dL_law_220 : decode cL_law 220 = .ok (.iadd, 1) := by decide +kernel
theorem dL_law_221 : decode cL_law 221 = .ok (.if_icmp .ne 64, 3) := by decide +kernel
theorem dL_law_224 : decode cL_law 224 = .ok (.aload_n 1, 1) := by decide +kernel
theorem dL_law_225 : decode cL_law 225 = .ok (.iload 11, 2) := by decide +kernel
theorem dL_law_227 : decode cL_law 227 = .ok (.iconst 0, 1) := by decide +kernel
theorem dL_law_228 : decode cL_law 228 = .ok (.invokevirtual 28, 3) := by decide +kernel
theorem dL_law_231 : decode cL_law 231 = .ok (.iload 13, 2) := by decide +kernel
theorem dL_law_233 : decode cL_law 233 = .ok (.if_icmp .ne 52, 3) := by decide +kernel
theorem dL_law_236 : decode cL_law 236 = .ok (.iload 12, 2) := by decide +kernel
theorem dL_law_238 : decode cL_law 238 = .ok (.iconst 1, 1) := by decide +kernel
theorem dL_law_239 : decode cL_law 239 = .ok (.if_icmp .gt 10, 3) := by decide +kernel
theorem dL_law_242 : decode cL_law 242 = .ok (.iload 14, 2) := by decide +kernel
theorem dL_law_244 : decode cL_law 244 = .ok (.iload 8, 2) := by decide +kernel
theorem dL_law_246 : decode cL_law 246 = .ok (.if_icmp .ne 39, 3) := by decide +kernel
theorem dL_law_249 : decode cL_law 249 = .ok (.iload 8, 2) := by decide +kernel
theorem dL_law_251 : decode cL_law 251 = .ok (.ifCond .gt 8, 3) := by decide +kernel
theorem dL_law_254 : decode cL_law 254 = .ok (.iload 14, 2) := by decide +kernel
theorem dL_law_256 : decode cL_law 256 = .ok (.ifCond .ne 29, 3) := by decide +kernel
theorem dL_law_259 : decode cL_law 259 = .ok (.iload 4, 2) := by decide +kernel
theorem dL_law_261 : decode cL_law 261 = .ok (.iconst 3, 1) := by decide +kernel
theorem dL_law_262 : decode cL_law 262 = .ok (.irem, 1) := by decide +kernel
theorem dL_law_263 : decode cL_law 263 = .ok (.ifCond .le 11, 3) := by decide +kernel
theorem dL_law_266 : decode cL_law 266 = .ok (.iload 4, 2) := by decide +kernel
theorem dL_law_268 : decode cL_law 268 = .ok (.iconst 1, 1) := by decide +kernel
theorem dL_law_269 : decode cL_law 269 = .ok (.iadd, 1) := by decide +kernel
theorem dL_law_270 : decode cL_law 270 = .ok (.iload_n 3, 1) := by decide +kernel
theorem dL_law_271 : decode cL_law 271 = .ok (.if_icmp .lt 10, 3) := by decide +kernel
theorem dL_law_274 : decode cL_law 274 = .ok (.aload_n 1, 1) := by decide +kernel
theorem dL_law_275 : decode cL_law 275 = .ok (.invokestatic 93, 3) := by decide +kernel
theorem dL_law_278 : decode cL_law 278 = .ok (.ifCond .eq 7, 3) := by decide +kernel
theorem dL_law_281 : decode cL_law 281 = .ok (.iconst 1, 1) := by decide +kernel
theorem dL_law_282 : decode cL_law 282 = .ok (.goto 4, 3) := by decide +kernel
theorem dL_law_285 : decode cL_law 285 = .ok (.iconst 0, 1) := by decide +kernel
theorem dL_law_286 : decode cL_law 286 = .ok (.istore_n 2, 1) := by decide +kernel
theorem dL_law_287 : decode cL_law 287 = .ok (.iinc 4 1, 3) := by decide +kernel
theorem dL_law_290 : decode cL_law 290 = .ok (.goto (-258), 3) := by decide +kernel
theorem dL_law_293 : decode cL_law 293 = .ok (.aload_n 1, 1) := by decide +kernel
theorem dL_law_294 : decode cL_law 294 = .ok (.invokevirtual 97, 3) := by decide +kernel
theorem dL_law_297 : decode cL_law 297 = .ok (.istore 4, 2) := by decide +kernel
theorem dL_law_299 : decode cL_law 299 = .ok (.iload_n 2, 1) := by decide +kernel
theorem dL_law_300 : decode cL_law 300 = .ok (.ifCond .eq 46, 3) := by decide +kernel
theorem dL_law_303 : decode cL_law 303 = .ok (.iload 4, 2) := by decide +kernel
theorem dL_law_305 : decode cL_law 305 = .ok (.iconst (-1), 1) := by decide +kernel
theorem dL_law_306 : decode cL_law 306 = .ok (.if_icmp .lt 40, 3) := by decide +kernel
theorem dL_law_309 : decode cL_law 309 = .ok (.iload 4, 2) := by decide +kernel
theorem dL_law_311 : decode cL_law 311 = .ok (.bipush 100, 2) := by decide +kernel
theorem dL_law_313 : decode cL_law 313 = .ok (.if_icmp .gt 33, 3) := by decide +kernel
theorem dL_law_316 : decode cL_law 316 = .ok (.iload 4, 2) := by decide +kernel
theorem dL_law_318 : decode cL_law 318 = .ok (.ifCond .ne 7, 3) := by decide +kernel
theorem dL_law_321 : decode cL_law 321 = .ok (.iconst 1, 1) := by decide +kernel
theorem dL_law_322 : decode cL_law 322 = .ok (.goto 4, 3) := by decide +kernel
theorem dL_law_325 : decode cL_law 325 = .ok (.iconst 0, 1) := by decide +kernel
theorem dL_law_326 : decode cL_law 326 = .ok (.aload_n 1, 1) := by decide +kernel
theorem dL_law_327 : decode cL_law 327 = .ok (.iconst 5, 1) := by decide +kernel
theorem dL_law_328 : decode cL_law 328 = .ok (.invokevirtual 25, 3) := by decide +kernel
theorem dL_law_331 : decode cL_law 331 = .ok (.ifCond .ne 7, 3) := by decide +kernel
theorem dL_law_334 : decode cL_law 334 = .ok (.iconst 1, 1) := by decide +kernel
theorem dL_law_335 : decode cL_law 335 = .ok (.goto 4, 3) := by decide +kernel
theorem dL_law_338 : decode cL_law 338 = .ok (.iconst 0, 1) := by decide +kernel
theorem dL_law_339 : decode cL_law 339 = .ok (.if_icmp .ne 7, 3) := by decide +kernel
theorem dL_law_342 : decode cL_law 342 = .ok (.iconst 1, 1) := by decide +kernel
theorem dL_law_343 : decode cL_law 343 = .ok (.goto 4, 3) := by decide +kernel
theorem dL_law_346 : decode cL_law 346 = .ok (.iconst 0, 1) := by decide +kernel
theorem dL_law_347 : decode cL_law 347 = .ok (.istore_n 2, 1) := by decide +kernel
theorem dL_law_348 : decode cL_law 348 = .ok (.iload 4, 2) := by decide +kernel
theorem dL_law_350 : decode cL_law 350 = .ok (.ifCond .le 42, 3) := by decide +kernel
theorem dL_law_353 : decode cL_law 353 = .ok (.iload 4, 2) := by decide +kernel
theorem dL_law_355 : decode cL_law 355 = .ok (.bipush 51, 2) := by decide +kernel
theorem dL_law_357 : decode cL_law 357 = .ok (.if_icmp .ge 35, 3) := by decide +kernel
theorem dL_law_360 : decode cL_law 360 = .ok (.aload_n 1, 1) := by decide +kernel
theorem dL_law_361 : decode cL_law 361 = .ok (.iload 4, 2) := by decide +kernel
theorem dL_law_363 : decode cL_law 363 = .ok (.invokevirtual 79, 3) := by decide +kernel
theorem dL_law_366 : decode cL_law 366 = .ok (.pop, 1) := by decide +kernel
theorem dL_law_367 : decode cL_law 367 = .ok (.iload_n 2, 1) := by decide +kernel
theorem dL_law_368 : decode cL_law 368 = .ok (.ifCond .eq 22, 3) := by decide +kernel
theorem dL_law_371 : decode cL_law 371 = .ok (.aload_n 1, 1) := by decide +kernel
theorem dL_law_372 : decode cL_law 372 = .ok (.iconst 5, 1) := by decide +kernel
theorem dL_law_373 : decode cL_law 373 = .ok (.invokevirtual 25, 3) := by decide +kernel
theorem dL_law_376 : decode cL_law 376 = .ok (.ifCond .ne 14, 3) := by decide +kernel
theorem dL_law_379 : decode cL_law 379 = .ok (.aload_n 1, 1) := by decide +kernel
theorem dL_law_380 : decode cL_law 380 = .ok (.invokevirtual 97, 3) := by decide +kernel
theorem dL_law_383 : decode cL_law 383 = .ok (.ifCond .ne 7, 3) := by decide +kernel
theorem dL_law_386 : decode cL_law 386 = .ok (.iconst 1, 1) := by decide +kernel
theorem dL_law_387 : decode cL_law 387 = .ok (.goto 4, 3) := by decide +kernel
theorem dL_law_390 : decode cL_law 390 = .ok (.iconst 0, 1) := by decide +kernel
theorem dL_law_391 : decode cL_law 391 = .ok (.istore_n 2, 1) := by decide +kernel
theorem dL_law_392 : decode cL_law 392 = .ok (.iload_n 2, 1) := by decide +kernel
theorem dL_law_393 : decode cL_law 393 = .ok (.ireturn, 1) := by decide +kernel
