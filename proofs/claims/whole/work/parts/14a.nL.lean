set_option maxRecDepth 20000 in
theorem ggL_law_X4_init : GoodIn wsL_law wsX4_init := goodIn_r _ [9, 10, 11, 12, 13, 14, 15, 16, 17, 18, 19, 20, 21, 22, 23, 24, 25, 26, 27, 28, 29, 30, 31, 32, 33, 34, 35, 36, 37, 38, 39, 40, 41, 42, 43, 44, 45, 46, 47, 48, 2, 49, 50, 51, 52, 53, 54, 55, 56, 57, 58, 59, 60, 61, 62, 63, 64, 65, 66, 67, 68, 69, 70, 71, 72, 73, 74, 75, 76, 77, 78, 79, 80, 81, 82, 83, 84, 85, 86, 87, 88, 89, 90, 91, 92, 93, 94, 95, 762, 763, 764, 765, 766, 767, 768, 769, 770, 771, 772, 773, 774, 744, 745, 746, 747, 775, 776, 777, 778, 779, 780, 781, 782, 783, 784, 785, 786] (by decide +kernel) (by decide +kernel)
set_option maxRecDepth 20000 in
theorem gL_law_X4_init : GoodIn wsL_law (wsX4_init) := ggL_law_X4_init
set_option maxRecDepth 20000 in
theorem ggL_law_X5_init : GoodIn wsL_law wsX5_init := goodIn_r _ [98, 99, 11, 12, 30, 100, 101, 102, 103, 104, 105, 748, 749, 750, 751, 752, 753, 754, 755, 756, 757, 758, 759, 760, 761] (by decide +kernel) (by decide +kernel)
set_option maxRecDepth 20000 in
theorem gL_law_X5_init : GoodIn wsL_law (wsX5_init) := ggL_law_X5_init
set_option maxRecDepth 20000 in
theorem ggL_law_L_needle : GoodIn wsL_law wsL_needle := goodIn_ca (goodIn_ca (goodIn_r _ [109, 110, 111, 112, 113, 114, 2, 115, 21, 16, 116, 117, 118, 119, 120, 121, 122, 123, 124, 125, 126, 127, 128, 129, 130, 131, 20, 132, 83, 133, 134, 135, 136, 137, 15, 138, 31, 32, 34, 35, 36, 38, 39, 40, 41, 37, 46, 47, 139, 140, 67, 68, 69, 70, 71, 72, 73, 48, 49, 50, 51, 52, 53, 74, 75, 76, 77, 744, 745, 746, 747, 762, 763, 764, 765, 766, 767, 768, 769, 770, 771, 772, 773, 774, 775, 776, 777] (by decide +kernel) (by decide +kernel)) (goodIn_sub (fun _ h => List.mem_append_left _ (List.mem_append_left _ (List.mem_append_right _ h))) (by decide +kernel))) (goodIn_sub (fun _ h => List.mem_append_left _ (List.mem_append_right _ h)) (by decide +kernel))
set_option maxRecDepth 20000 in
theorem gL_law_L_needle : GoodIn wsL_law (va_wsS RL 87 yL_needle wsL_needle) := goodIn_app (goodIn_of _ (by decide +kernel)) ggL_law_L_needle
set_option maxRecDepth 20000 in
theorem ggL_law_X5_needle : GoodIn wsL_law wsX5_needle := goodIn_r _ [144, 145, 146, 147, 5, 148, 149, 150, 151, 152, 153, 154, 155, 156, 157, 158, 159, 160, 161, 162, 163, 102, 100, 164, 165, 166, 167, 168, 169, 170, 748, 749, 750, 751, 752, 753, 754, 755, 756, 757, 758, 759, 760, 761] (by decide +kernel) (by decide +kernel)
set_option maxRecDepth 20000 in
theorem gL_law_X5_needle : GoodIn wsL_law (wsV RL 92 RX5 yX5_needle wsX5_needle) := goodIn_app (goodIn_of _ (by decide +kernel)) ggL_law_X5_needle
set_option maxRecDepth 20000 in
theorem ggL_law_X5_thrown : GoodIn wsL_law wsX5_thrown := goodIn_r _ [174, 145, 748, 749, 750, 751, 752, 753, 754, 755, 756, 757, 758, 759, 760, 761] (by decide +kernel) (by decide +kernel)
set_option maxRecDepth 20000 in
theorem gL_law_X5_thrown : GoodIn wsL_law (wsV RL 93 RX5 yX5_thrown wsX5_thrown) := goodIn_app (goodIn_of _ (by decide +kernel)) ggL_law_X5_thrown
set_option maxRecDepth 20000 in
theorem ggL_law_L_friction : GoodIn wsL_law wsL_friction := goodIn_ca (goodIn_ca (goodIn_r _ [177, 110, 111, 178, 179, 180, 2, 181, 21, 16, 116, 117, 118, 119, 120, 124, 125, 126, 127, 128, 129, 130, 131, 20, 132, 83, 133, 134, 135, 136, 137, 15, 138, 31, 32, 34, 35, 36, 38, 39, 40, 41, 37, 46, 47, 139, 744, 745, 746, 747, 762, 763, 764, 765, 766, 767, 768, 769, 770, 771, 772, 773, 774, 775, 776, 777] (by decide +kernel) (by decide +kernel)) (goodIn_sub (fun _ h => List.mem_append_left _ (List.mem_append_left _ (List.mem_append_right _ h))) (by decide +kernel))) (goodIn_sub (fun _ h => List.mem_append_left _ (List.mem_append_right _ h)) (by decide +kernel))
set_option maxRecDepth 20000 in
theorem gL_law_L_friction : GoodIn wsL_law (va_wsS RL 96 yL_friction wsL_friction) := goodIn_app (goodIn_of _ (by decide +kernel)) ggL_law_L_friction
set_option maxRecDepth 20000 in
theorem ggL_law_X5_friction : GoodIn wsL_law wsX5_friction := goodIn_r _ [185, 145, 146, 147, 5, 148, 149, 150, 151, 152, 153, 154, 155, 159, 160, 161, 162, 163, 102, 100, 164, 165, 166, 167, 168, 169, 170, 748, 749, 750, 751, 752, 753, 754, 755, 756, 757, 758, 759, 760, 761] (by decide +kernel) (by decide +kernel)
set_option maxRecDepth 20000 in
theorem gL_law_X5_friction : GoodIn wsL_law (wsV RL 98 RX5 yX5_friction wsX5_friction) := goodIn_app (goodIn_of _ (by decide +kernel)) ggL_law_X5_friction
set_option maxRecDepth 20000 in
theorem ggL_law_L_hold : GoodIn wsL_law wsL_hold := goodIn_ca (goodIn_r _ [188, 110, 189, 190, 191, 2, 192, 21, 16, 116, 117, 118, 119, 120, 129, 130, 131, 20, 132, 83, 133, 134, 135, 136, 137, 15, 138, 31, 32, 34, 35, 36, 38, 39, 40, 41, 37, 46, 47, 139, 744, 745, 746, 747, 762, 763, 764, 765, 766, 767, 768, 769, 770, 771, 772, 773, 774, 775, 776, 777] (by decide +kernel) (by decide +kernel)) (goodIn_sub (fun _ h => List.mem_append_left _ (List.mem_append_left _ (List.mem_append_right _ h))) (by decide +kernel))
set_option maxRecDepth 20000 in
theorem gL_law_L_hold : GoodIn wsL_law (va_wsS RL 99 yL_hold wsL_hold) := goodIn_app (goodIn_of _ (by decide +kernel)) ggL_law_L_hold
set_option maxRecDepth 20000 in
theorem ggL_law_X5_hold : GoodIn wsL_law wsX5_hold := goodIn_r _ [196, 145, 146, 147, 5, 148, 149, 150, 151, 152, 153, 154, 155, 159, 160, 161, 162, 163, 102, 100, 164, 165, 166, 167, 168, 169, 170, 748, 749, 750, 751, 752, 753, 754, 755, 756, 757, 758, 759, 760, 761] (by decide +kernel) (by decide +kernel)
set_option maxRecDepth 20000 in
theorem gL_law_X5_hold : GoodIn wsL_law (wsV RL 102 RX5 yX5_hold wsX5_hold) := goodIn_app (goodIn_of _ (by decide +kernel)) ggL_law_X5_hold
set_option maxRecDepth 20000 in
theorem ggL_law_L_swap : GoodIn wsL_law wsL_swap := goodIn_ca (goodIn_r _ [199, 110, 200, 201, 202, 2, 203, 21, 16, 116, 117, 118, 119, 120, 129, 130, 131, 20, 132, 83, 133, 134, 135, 136, 137, 15, 138, 31, 32, 34, 35, 36, 38, 39, 40, 41, 37, 46, 47, 139, 204, 205, 206, 140, 67, 68, 69, 70, 71, 72, 73, 48, 49, 50, 51, 52, 53, 74, 75, 76, 77, 744, 745, 746, 747, 762, 763, 764, 765, 766, 767, 768, 769, 770, 771, 772, 773, 774, 775, 776, 777] (by decide +kernel) (by decide +kernel)) (goodIn_sub (fun _ h => List.mem_append_left _ (List.mem_append_left _ (List.mem_append_right _ h))) (by decide +kernel))
set_option maxRecDepth 20000 in
theorem gL_law_L_swap : GoodIn wsL_law (va_wsS RL 103 yL_swap wsL_swap) := goodIn_app (goodIn_of _ (by decide +kernel)) ggL_law_L_swap
set_option maxRecDepth 20000 in
theorem ggL_law_X5_swap : GoodIn wsL_law wsX5_swap := goodIn_r _ [210, 145, 100, 146, 147, 5, 148, 149, 150, 151, 152, 153, 154, 155, 159, 160, 161, 162, 163, 102, 164, 165, 166, 167, 168, 169, 170, 748, 749, 750, 751, 752, 753, 754, 755, 756, 757, 758, 759, 760, 761] (by decide +kernel) (by decide +kernel)
set_option maxRecDepth 20000 in
theorem gL_law_X5_swap : GoodIn wsL_law (wsV RL 105 RX5 yX5_swap wsX5_swap) := goodIn_app (goodIn_of _ (by decide +kernel)) ggL_law_X5_swap
set_option maxRecDepth 20000 in
theorem ggL_law_L_bar : GoodIn wsL_law wsL_bar := goodIn_ca (goodIn_ca (goodIn_ca (goodIn_r _ [213, 110, 111, 214, 215, 216, 217, 2, 218, 219, 220, 16, 21, 116, 117, 118, 119, 120, 121, 122, 123, 124, 125, 126, 127, 128, 221, 55, 56, 15, 57, 36, 222, 223, 224, 225, 54, 129, 130, 131, 20, 132, 83, 133, 134, 135, 136, 137, 138, 31, 32, 34, 35, 38, 39, 40, 41, 37, 46, 47, 139, 226, 227, 228, 229, 230, 43, 44, 45, 48, 49, 50, 51, 52, 53, 58, 59, 60, 61, 62, 63, 64, 65, 66, 67, 68, 69, 70, 71, 72, 73, 74, 75, 76, 77, 744, 745, 746, 747, 762, 763, 764, 765, 766, 767, 768, 769, 770, 771, 772, 773, 774, 775, 776, 777] (by decide +kernel) (by decide +kernel)) (goodIn_sub (fun _ h => List.mem_append_right _ h) (by decide +kernel))) (goodIn_sub (fun _ h => List.mem_append_left _ (List.mem_append_left _ (List.mem_append_right _ h))) (by decide +kernel))) (goodIn_sub (fun _ h => List.mem_append_left _ (List.mem_append_right _ h)) (by decide +kernel))
set_option maxRecDepth 20000 in
theorem gL_law_L_bar : GoodIn wsL_law (va_wsS RL 106 yL_bar wsL_bar) := goodIn_app (goodIn_of _ (by decide +kernel)) ggL_law_L_bar
set_option maxRecDepth 20000 in
theorem ggL_law_X5_bar : GoodIn wsL_law wsX5_bar := goodIn_r _ [234, 145, 100, 146, 147, 5, 148, 149, 150, 151, 152, 153, 154, 155, 235, 236, 237, 156, 157, 158, 238, 239, 240, 159, 160, 161, 162, 163, 102, 164, 165, 166, 241, 242, 243, 748, 749, 750, 751, 752, 753, 754, 755, 756, 757, 758, 759, 760, 761] (by decide +kernel) (by decide +kernel)
set_option maxRecDepth 20000 in
theorem gL_law_X5_bar : GoodIn wsL_law (wsV RL 109 RX5 yX5_bar wsX5_bar) := goodIn_app (goodIn_of _ (by decide +kernel)) ggL_law_X5_bar
set_option maxRecDepth 20000 in
theorem ggL_law_L_unbar : GoodIn wsL_law wsL_unbar := goodIn_ca (goodIn_ca (goodIn_r _ [246, 110, 214, 247, 248, 249, 2, 250, 219, 220, 16, 21, 116, 117, 118, 119, 120, 221, 55, 56, 15, 57, 36, 129, 130, 131, 20, 132, 83, 133, 134, 135, 136, 137, 138, 31, 32, 34, 35, 38, 39, 40, 41, 37, 46, 47, 139, 251, 252, 253, 254, 255, 227, 228, 229, 230, 43, 44, 45, 48, 49, 50, 51, 52, 53, 54, 58, 59, 60, 61, 62, 63, 64, 65, 66, 67, 68, 69, 70, 71, 72, 73, 74, 75, 76, 77, 222, 223, 224, 225, 744, 745, 746, 747, 762, 763, 764, 765, 766, 767, 768, 769, 770, 771, 772, 773, 774, 775, 776, 777] (by decide +kernel) (by decide +kernel)) (goodIn_sub (fun _ h => List.mem_append_right _ h) (by decide +kernel))) (goodIn_sub (fun _ h => List.mem_append_left _ (List.mem_append_left _ (List.mem_append_right _ h))) (by decide +kernel))
set_option maxRecDepth 20000 in
theorem gL_law_L_unbar : GoodIn wsL_law (va_wsS RL 110 yL_unbar wsL_unbar) := goodIn_app (goodIn_of _ (by decide +kernel)) ggL_law_L_unbar
set_option maxRecDepth 20000 in
theorem ggL_law_X5_unbar : GoodIn wsL_law wsX5_unbar := goodIn_r _ [259, 145, 100, 146, 147, 5, 148, 149, 150, 151, 152, 153, 154, 155, 159, 160, 161, 162, 163, 102, 164, 165, 166, 241, 242, 243, 238, 239, 240, 748, 749, 750, 751, 752, 753, 754, 755, 756, 757, 758, 759, 760, 761] (by decide +kernel) (by decide +kernel)
set_option maxRecDepth 20000 in
theorem gL_law_X5_unbar : GoodIn wsL_law (wsV RL 113 RX5 yX5_unbar wsX5_unbar) := goodIn_app (goodIn_of _ (by decide +kernel)) ggL_law_X5_unbar
set_option maxRecDepth 20000 in
theorem ggL_law_L_coil : GoodIn wsL_law wsL_coil := goodIn_ca (goodIn_r _ [262, 111, 263, 264, 265, 2, 266, 21, 16, 124, 125, 126, 127, 128, 121, 122, 123, 129, 130, 131, 20, 132, 83, 133, 134, 135, 136, 137, 15, 138, 31, 32, 34, 35, 36, 38, 39, 40, 41, 37, 46, 47, 139, 230, 43, 44, 45, 48, 49, 50, 51, 52, 53, 54, 55, 56, 57, 58, 59, 60, 61, 62, 63, 64, 65, 66, 67, 68, 69, 70, 71, 72, 73, 74, 75, 76, 77, 744, 745, 746, 747, 762, 763, 764, 765, 766, 767, 768, 769, 770, 771, 772, 773, 774, 775, 776, 777] (by decide +kernel) (by decide +kernel)) (goodIn_sub (fun _ h => List.mem_append_left _ (List.mem_append_right _ h)) (by decide +kernel))
set_option maxRecDepth 20000 in
theorem gL_law_L_coil : GoodIn wsL_law (va_wsS RL 114 yL_coil wsL_coil) := goodIn_app (goodIn_of _ (by decide +kernel)) ggL_law_L_coil
set_option maxRecDepth 20000 in
theorem ggL_law_X5_coil : GoodIn wsL_law wsX5_coil := goodIn_r _ [270, 145, 100, 149, 150, 5, 151, 156, 157, 158, 152, 153, 154, 155, 159, 160, 161, 162, 163, 102, 164, 165, 166, 167, 168, 169, 170, 748, 749, 750, 751, 752, 753, 754, 755, 756, 757, 758, 759, 760, 761] (by decide +kernel) (by decide +kernel)
set_option maxRecDepth 20000 in
theorem gL_law_X5_coil : GoodIn wsL_law (wsV RL 116 RX5 yX5_coil wsX5_coil) := goodIn_app (goodIn_of _ (by decide +kernel)) ggL_law_X5_coil
set_option maxRecDepth 20000 in
theorem ggL_law_L_set : GoodIn wsL_law wsL_set := goodIn_ca (goodIn_ca (goodIn_r _ [273, 110, 111, 274, 275, 276, 2, 277, 278, 21, 16, 279, 280, 281, 119, 120, 124, 125, 126, 127, 128, 129, 130, 131, 20, 132, 83, 133, 134, 135, 136, 137, 15, 138, 31, 32, 34, 35, 36, 38, 39, 40, 41, 37, 46, 47, 139, 230, 43, 44, 45, 48, 49, 50, 51, 52, 53, 54, 55, 56, 57, 58, 59, 60, 61, 62, 63, 64, 65, 66, 67, 68, 69, 70, 71, 72, 73, 74, 75, 76, 77, 744, 745, 746, 747, 762, 763, 764, 765, 766, 767, 768, 769, 770, 771, 772, 773, 774, 775, 776, 777] (by decide +kernel) (by decide +kernel)) (goodIn_sub (fun _ h => List.mem_append_left _ (List.mem_append_left _ (List.mem_append_right _ h))) (by decide +kernel))) (goodIn_sub (fun _ h => List.mem_append_left _ (List.mem_append_right _ h)) (by decide +kernel))
set_option maxRecDepth 20000 in
theorem gL_law_L_set : GoodIn wsL_law (va_wsS RL 117 yL_set wsL_set) := goodIn_app (goodIn_of _ (by decide +kernel)) ggL_law_L_set
set_option maxRecDepth 20000 in
theorem ggL_law_X5_set : GoodIn wsL_law wsX5_set := goodIn_r _ [285, 145, 149, 150, 5, 151, 152, 153, 154, 155, 159, 160, 161, 162, 163, 102, 100, 164, 165, 166, 167, 168, 169, 170, 748, 749, 750, 751, 752, 753, 754, 755, 756, 757, 758, 759, 760, 761] (by decide +kernel) (by decide +kernel)
set_option maxRecDepth 20000 in
theorem gL_law_X5_set : GoodIn wsL_law (wsV RL 119 RX5 yX5_set wsX5_set) := goodIn_app (goodIn_of _ (by decide +kernel)) ggL_law_X5_set
set_option maxRecDepth 20000 in
theorem ggL_law_L_step : GoodIn wsL_law wsL_step := goodIn_ca (goodIn_r _ [288, 111, 289, 290, 291, 2, 292, 21, 16, 124, 125, 126, 127, 128, 129, 130, 131, 20, 132, 83, 133, 134, 135, 136, 137, 15, 138, 31, 32, 34, 35, 36, 38, 39, 40, 41, 37, 46, 47, 139, 293, 294, 295, 296, 297, 298, 299, 300, 301, 302, 303, 304, 305, 306, 307, 308, 66, 67, 68, 69, 70, 71, 72, 73, 48, 49, 50, 51, 52, 53, 74, 75, 76, 77, 744, 745, 746, 747, 775, 776, 777, 762, 763, 764, 765, 766, 767, 768, 769, 770, 771, 772, 773, 774] (by decide +kernel) (by decide +kernel)) (goodIn_sub (fun _ h => List.mem_append_left _ (List.mem_append_right _ h)) (by decide +kernel))
set_option maxRecDepth 20000 in
theorem gL_law_L_step : GoodIn wsL_law (va_wsS RL 120 yL_step wsL_step) := goodIn_app (goodIn_of _ (by decide +kernel)) ggL_law_L_step
set_option maxRecDepth 20000 in
theorem ggL_law_X5_step : GoodIn wsL_law wsX5_step := goodIn_r _ [312, 145, 100, 149, 150, 5, 151, 152, 153, 154, 155, 159, 160, 161, 162, 163, 102, 164, 165, 166, 313, 314, 315, 316, 105, 317, 318, 319, 320, 321, 322, 323, 324, 325, 326, 327, 328, 329, 330, 331, 332, 333, 334, 335, 336, 337, 338, 339, 340, 341, 342, 343, 344, 345, 346, 347, 748, 749, 750, 751, 752, 753, 754, 755, 756, 757, 758, 759, 760, 761] (by decide +kernel) (by decide +kernel)
set_option maxRecDepth 20000 in
theorem gL_law_X5_step : GoodIn wsL_law (wsV RL 122 RX5 yX5_step wsX5_step) := goodIn_app (goodIn_of _ (by decide +kernel)) ggL_law_X5_step
set_option maxRecDepth 20000 in
theorem ggL_law_L_append : GoodIn wsL_law wsL_append := goodIn_ca (goodIn_ca (goodIn_r _ [350, 111, 214, 351, 352, 353, 2, 354, 219, 220, 25, 124, 125, 126, 127, 128, 355, 356, 357, 24, 358, 359, 88, 744, 745, 746, 747, 778, 779, 780] (by decide +kernel) (by decide +kernel)) (goodIn_sub (fun _ h => List.mem_append_right _ h) (by decide +kernel))) (goodIn_sub (fun _ h => List.mem_append_left _ (List.mem_append_right _ h)) (by decide +kernel))
set_option maxRecDepth 20000 in
theorem gL_law_L_append : GoodIn wsL_law (va_wsS RL 123 yL_append wsL_append) := goodIn_app (goodIn_of _ (by decide +kernel)) ggL_law_L_append
set_option maxRecDepth 20000 in
theorem ggL_law_X5_append : GoodIn wsL_law wsX5_append := goodIn_r _ [363, 145, 364, 103, 149, 150, 5, 151, 152, 153, 154, 155, 748, 749, 750, 751, 752, 753, 754, 755, 756, 757, 758, 759, 760, 761] (by decide +kernel) (by decide +kernel)
set_option maxRecDepth 20000 in
theorem gL_law_X5_append : GoodIn wsL_law (wsV RL 125 RX5 yX5_append wsX5_append) := goodIn_app (goodIn_of _ (by decide +kernel)) ggL_law_X5_append
set_option maxRecDepth 20000 in
theorem ggL_law_X4_clearBuffer : GoodIn wsL_law wsX4_clearBuffer := goodIn_r _ [368, 25, 744, 745, 746, 747, 778, 779, 780] (by decide +kernel) (by decide +kernel)
set_option maxRecDepth 20000 in
theorem gL_law_X4_clearBuffer : GoodIn wsL_law (wsV RL 126 RX4 yX4_clearBuffer wsX4_clearBuffer) := goodIn_app (goodIn_of _ (by decide +kernel)) ggL_law_X4_clearBuffer
set_option maxRecDepth 20000 in
theorem ggL_law_X5_clearBuffer : GoodIn wsL_law wsX5_clearBuffer := goodIn_r _ [372, 145, 364, 748, 749, 750, 751, 752, 753, 754, 755, 756, 757, 758, 759, 760, 761] (by decide +kernel) (by decide +kernel)
set_option maxRecDepth 20000 in
theorem gL_law_X5_clearBuffer : GoodIn wsL_law (wsV RL 129 RX5 yX5_clearBuffer wsX5_clearBuffer) := goodIn_app (goodIn_of _ (by decide +kernel)) ggL_law_X5_clearBuffer
set_option maxRecDepth 20000 in
theorem ggL_law_X4_firstError : GoodIn wsL_law wsX4_firstError := goodIn_r _ [376, 25, 377, 378, 379, 24, 380, 92, 359, 88, 381, 382, 383, 91, 384, 385, 386, 387, 388, 389, 390, 391, 392, 393, 394, 395, 396, 397, 398, 399, 400, 401, 402, 744, 745, 746, 747, 778, 779, 780, 781, 782, 783, 784, 785, 786] (by decide +kernel) (by decide +kernel)
set_option maxRecDepth 20000 in
theorem gL_law_X4_firstError : GoodIn wsL_law (wsV RL 130 RX4 yX4_firstError wsX4_firstError) := goodIn_app (goodIn_of _ (by decide +kernel)) ggL_law_X4_firstError
set_option maxRecDepth 20000 in
theorem ggL_law_X5_firstError : GoodIn wsL_law wsX5_firstError := goodIn_r _ [406, 145, 407, 408, 364, 409, 410, 411, 5, 412, 413, 414, 415, 416, 417, 103, 104, 418, 419, 420, 421, 149, 150, 151, 422, 423, 424, 425, 748, 749, 750, 751, 752, 753, 754, 755, 756, 757, 758, 759, 760, 761] (by decide +kernel) (by decide +kernel)
set_option maxRecDepth 20000 in
theorem gL_law_X5_firstError : GoodIn wsL_law (wsV RL 133 RX5 yX5_firstError wsX5_firstError) := goodIn_app (goodIn_of _ (by decide +kernel)) ggL_law_X5_firstError
set_option maxRecDepth 20000 in
theorem ggL_law_L_bars : GoodIn wsL_law wsL_bars := goodIn_ca (goodIn_r _ [428, 111, 429, 430, 431, 2, 432, 127, 128, 25, 21, 16, 433, 434, 435, 24, 436, 359, 92, 437, 378, 379, 380, 88, 381, 382, 383, 91, 384, 385, 386, 387, 388, 389, 390, 391, 392, 393, 394, 395, 396, 397, 398, 399, 400, 401, 402, 438, 439, 440, 441, 129, 130, 131, 20, 132, 83, 133, 134, 135, 136, 137, 15, 138, 31, 32, 34, 35, 36, 38, 39, 40, 41, 37, 46, 47, 139, 442, 443, 444, 445, 446, 252, 253, 254, 255, 227, 228, 229, 447, 448, 449, 450, 451, 452, 453, 454, 455, 230, 43, 44, 45, 48, 49, 50, 51, 52, 53, 54, 55, 56, 57, 58, 59, 60, 61, 62, 63, 64, 65, 66, 67, 68, 69, 70, 71, 72, 73, 74, 75, 76, 77, 222, 223, 224, 225, 744, 745, 746, 747, 778, 779, 780, 781, 782, 783, 784, 785, 786, 775, 776, 777, 762, 763, 764, 765, 766, 767, 768, 769, 770, 771, 772, 773, 774] (by decide +kernel) (by decide +kernel)) (goodIn_sub (fun _ h => List.mem_append_left _ (List.mem_append_right _ h)) (by decide +kernel))
set_option maxRecDepth 20000 in
theorem gL_law_L_bars : GoodIn wsL_law (va_wsS RL 134 yL_bars wsL_bars) := goodIn_app (goodIn_of _ (by decide +kernel)) ggL_law_L_bars
set_option maxRecDepth 20000 in
theorem ggL_law_X5_bars : GoodIn wsL_law wsX5_bars := goodIn_r _ [459, 145, 364, 100, 413, 104, 409, 410, 411, 5, 412, 408, 407, 414, 415, 416, 417, 103, 418, 419, 420, 421, 149, 150, 151, 422, 423, 424, 425, 152, 153, 154, 155, 159, 160, 161, 162, 163, 102, 164, 165, 166, 241, 242, 243, 238, 239, 240, 748, 749, 750, 751, 752, 753, 754, 755, 756, 757, 758, 759, 760, 761] (by decide +kernel) (by decide +kernel)
set_option maxRecDepth 20000 in
theorem gL_law_X5_bars : GoodIn wsL_law (wsV RL 137 RX5 yX5_bars wsX5_bars) := goodIn_app (goodIn_of _ (by decide +kernel)) ggL_law_X5_bars
set_option maxRecDepth 20000 in
theorem ggL_law_L_undo : GoodIn wsL_law wsL_undo := goodIn_ca (goodIn_r _ [462, 214, 463, 464, 465, 2, 466, 219, 220, 21, 16, 467, 468, 469, 20, 470, 133, 134, 83, 135, 136, 137, 15, 138, 31, 32, 34, 35, 36, 38, 39, 40, 41, 37, 46, 47, 139, 744, 745, 746, 747, 775, 776, 777, 762, 763, 764, 765, 766, 767, 768, 769, 770, 771, 772, 773, 774] (by decide +kernel) (by decide +kernel)) (goodIn_sub (fun _ h => List.mem_append_right _ h) (by decide +kernel))
