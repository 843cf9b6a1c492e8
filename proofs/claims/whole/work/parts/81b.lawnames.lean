/-! the law's calls: words, 1 -/
set_option maxRecDepth 20000 in
theorem ggL_law_X3_init : GoodIn wsL_law wsX3_init := goodIn_r _ [9, 10, 11, 12, 13, 14, 15, 16, 17, 18, 19, 20, 21, 22, 23, 24, 25, 26, 27, 28, 29, 30, 31, 32, 33, 34, 35, 36, 37, 38, 39, 40, 41, 42, 43, 44, 45, 46, 47, 48, 49, 50, 51, 52, 53, 54, 55, 56, 57, 58, 59, 60, 864, 865, 866, 867, 868, 869, 870, 871, 872, 873, 874, 875, 846, 847, 848, 849, 850, 876, 877, 878, 879, 880] (by decide +kernel) (by decide +kernel)
set_option maxRecDepth 20000 in
theorem gL_law_X3_init : GoodIn wsL_law (wsX3_init) := ggL_law_X3_init
set_option maxRecDepth 20000 in
theorem ggL_law_X4_init : GoodIn wsL_law wsX4_init := goodIn_r _ [63, 64, 11, 12, 30, 65, 66, 67, 68, 69, 70, 71, 5, 72, 851, 852, 853, 854, 855, 856, 857, 858, 859, 860, 861, 862, 863] (by decide +kernel) (by decide +kernel)
set_option maxRecDepth 20000 in
theorem gL_law_X4_init : GoodIn wsL_law (wsX4_init) := ggL_law_X4_init
set_option maxRecDepth 20000 in
theorem ggL_law_L_house : GoodIn wsL_law wsL_house := goodIn_ca (goodIn_ca (goodIn_r _ [76, 77, 78, 79, 80, 81, 2, 82, 83, 84, 85, 86, 16, 87, 88, 89, 90, 91, 92, 93, 15, 94, 32, 95, 96, 97, 98, 99, 100, 101, 102, 103, 104, 105, 106, 107, 34, 108, 109, 110, 111, 112, 17, 113, 114, 115, 116, 117, 118, 119, 120, 31, 33, 35, 36, 43, 44, 45, 46, 47, 121, 122, 123, 124, 125, 126, 127, 128, 129, 130, 131, 132, 133, 134, 135, 846, 847, 848, 849, 850, 864, 865, 866, 867, 868, 869, 870, 871, 872, 873, 874, 875] (by decide +kernel) (by decide +kernel)) (goodIn_sub (fun _ h => List.mem_append_left _ (List.mem_append_left _ (List.mem_append_right _ h))) (by decide +kernel))) (goodIn_sub (fun _ h => List.mem_append_left _ (List.mem_append_right _ h)) (by decide +kernel))
set_option maxRecDepth 20000 in
theorem gL_law_L_house : GoodIn wsL_law (va_wsS RL 84 yL_house wsL_house) := goodIn_app (goodIn_of _ (by decide +kernel)) ggL_law_L_house
set_option maxRecDepth 20000 in
theorem ggL_law_X4_house : GoodIn wsL_law wsX4_house := goodIn_r _ [139, 65, 140, 141, 142, 5, 143, 144, 145, 146, 147, 148, 149, 150, 151, 152, 153, 154, 155, 156, 157, 158, 159, 160, 161, 162, 163, 66, 851, 852, 853, 854, 855, 856, 857, 858, 859, 860, 861, 862, 863] (by decide +kernel) (by decide +kernel)
set_option maxRecDepth 20000 in
theorem gL_law_X4_house : GoodIn wsL_law (wsV RL 89 RX4 yX4_house wsX4_house) := goodIn_app (goodIn_of _ (by decide +kernel)) ggL_law_X4_house
set_option maxRecDepth 20000 in
theorem ggL_law_X4_thrown : GoodIn wsL_law wsX4_thrown := goodIn_r _ [167, 140, 851, 852, 853, 854, 855, 856, 857, 858, 859, 860, 861, 862, 863] (by decide +kernel) (by decide +kernel)
set_option maxRecDepth 20000 in
theorem gL_law_X4_thrown : GoodIn wsL_law (wsV RL 90 RX4 yX4_thrown wsX4_thrown) := goodIn_app (goodIn_of _ (by decide +kernel)) ggL_law_X4_thrown
set_option maxRecDepth 20000 in
theorem ggL_law_L_stop : GoodIn wsL_law wsL_stop := goodIn_ca (goodIn_ca (goodIn_r _ [170, 77, 78, 171, 172, 173, 2, 174, 83, 84, 85, 86, 16, 87, 175, 176, 88, 89, 90, 177, 178, 179, 132, 95, 96, 180, 181, 182, 15, 183, 34, 35, 184, 185, 186, 187, 188, 105, 106, 107, 108, 109, 110, 111, 112, 17, 113, 114, 115, 116, 117, 118, 119, 120, 31, 32, 33, 36, 43, 44, 45, 46, 47, 121, 122, 123, 124, 125, 126, 127, 128, 129, 130, 131, 133, 134, 135, 846, 847, 848, 849, 850, 864, 865, 866, 867, 868, 869, 870, 871, 872, 873, 874, 875] (by decide +kernel) (by decide +kernel)) (goodIn_sub (fun _ h => List.mem_append_left _ (List.mem_append_left _ (List.mem_append_right _ h))) (by decide +kernel))) (goodIn_sub (fun _ h => List.mem_append_left _ (List.mem_append_right _ h)) (by decide +kernel))
set_option maxRecDepth 20000 in
theorem gL_law_L_stop : GoodIn wsL_law (va_wsS RL 93 yL_stop wsL_stop) := goodIn_app (goodIn_of _ (by decide +kernel)) ggL_law_L_stop
set_option maxRecDepth 20000 in
theorem ggL_law_X4_stop : GoodIn wsL_law wsX4_stop := goodIn_r _ [192, 140, 65, 141, 142, 5, 143, 144, 145, 146, 193, 194, 195, 196, 197, 198, 199, 147, 148, 149, 150, 151, 152, 153, 154, 155, 156, 157, 158, 200, 201, 202, 203, 159, 160, 161, 162, 163, 66, 851, 852, 853, 854, 855, 856, 857, 858, 859, 860, 861, 862, 863] (by decide +kernel) (by decide +kernel)
set_option maxRecDepth 20000 in
theorem gL_law_X4_stop : GoodIn wsL_law (wsV RL 96 RX4 yX4_stop wsX4_stop) := goodIn_app (goodIn_of _ (by decide +kernel)) ggL_law_X4_stop
set_option maxRecDepth 20000 in
theorem ggL_law_L_drop : GoodIn wsL_law wsL_drop := goodIn_ca (goodIn_r _ [206, 77, 207, 208, 209, 2, 210, 83, 84, 16, 175, 176, 211, 212, 213, 214, 215, 216, 15, 217, 34, 95, 96, 108, 109, 110, 111, 112, 17, 113, 114, 115, 116, 117, 118, 119, 120, 31, 32, 33, 35, 36, 43, 44, 45, 46, 47, 121, 122, 123, 124, 125, 126, 127, 128, 129, 130, 131, 132, 133, 134, 135, 846, 847, 848, 849, 850, 864, 865, 866, 867, 868, 869, 870, 871, 872, 873, 874, 875] (by decide +kernel) (by decide +kernel)) (goodIn_sub (fun _ h => List.mem_append_left _ (List.mem_append_left _ (List.mem_append_right _ h))) (by decide +kernel))
set_option maxRecDepth 20000 in
theorem gL_law_L_drop : GoodIn wsL_law (va_wsS RL 97 yL_drop wsL_drop) := goodIn_app (goodIn_of _ (by decide +kernel)) ggL_law_L_drop
set_option maxRecDepth 20000 in
theorem ggL_law_X4_drop : GoodIn wsL_law wsX4_drop := goodIn_r _ [221, 140, 65, 222, 223, 224, 5, 225, 144, 145, 146, 151, 152, 153, 154, 159, 160, 161, 162, 163, 66, 851, 852, 853, 854, 855, 856, 857, 858, 859, 860, 861, 862, 863] (by decide +kernel) (by decide +kernel)
set_option maxRecDepth 20000 in
theorem gL_law_X4_drop : GoodIn wsL_law (wsV RL 100 RX4 yX4_drop wsX4_drop) := goodIn_app (goodIn_of _ (by decide +kernel)) ggL_law_X4_drop
set_option maxRecDepth 20000 in
theorem ggL_law_L_lay : GoodIn wsL_law wsL_lay := goodIn_ca (goodIn_ca (goodIn_ca (goodIn_r _ [228, 77, 229, 78, 230, 231, 232, 2, 233, 83, 84, 234, 235, 85, 86, 16, 236, 177, 178, 179, 237, 238, 239, 240, 241, 242, 132, 95, 96, 243, 244, 245, 15, 246, 44, 36, 247, 248, 249, 250, 251, 252, 253, 254, 32, 31, 47, 97, 98, 99, 100, 101, 102, 103, 255, 256, 257, 258, 33, 259, 92, 93, 94, 108, 109, 110, 111, 112, 17, 113, 114, 115, 116, 117, 118, 119, 120, 34, 35, 43, 45, 46, 121, 122, 123, 124, 125, 126, 127, 128, 129, 130, 131, 260, 261, 262, 263, 134, 135, 264, 265, 133, 846, 847, 848, 849, 850, 864, 865, 866, 867, 868, 869, 870, 871, 872, 873, 874, 875] (by decide +kernel) (by decide +kernel)) (goodIn_sub (fun _ h => List.mem_append_left _ (List.mem_append_left _ (List.mem_append_right _ h))) (by decide +kernel))) (goodIn_sub (fun _ h => List.mem_append_right _ h) (by decide +kernel))) (goodIn_sub (fun _ h => List.mem_append_left _ (List.mem_append_right _ h)) (by decide +kernel))
set_option maxRecDepth 20000 in
theorem gL_law_L_lay : GoodIn wsL_law (va_wsS RL 101 yL_lay wsL_lay) := goodIn_app (goodIn_of _ (by decide +kernel)) ggL_law_L_lay
set_option maxRecDepth 20000 in
theorem ggL_law_X4_lay : GoodIn wsL_law wsX4_lay := goodIn_r _ [269, 140, 193, 194, 5, 195, 144, 145, 146, 270, 271, 272, 273, 65, 274, 275, 276, 277, 278, 279, 280, 281, 282, 283, 196, 197, 198, 199, 284, 285, 286, 287, 288, 289, 290, 291, 292, 293, 294, 295, 159, 160, 161, 162, 163, 66, 296, 297, 298, 299, 851, 852, 853, 854, 855, 856, 857, 858, 859, 860, 861, 862, 863] (by decide +kernel) (by decide +kernel)
set_option maxRecDepth 20000 in
theorem gL_law_X4_lay : GoodIn wsL_law (wsV RL 104 RX4 yX4_lay wsX4_lay) := goodIn_app (goodIn_of _ (by decide +kernel)) ggL_law_X4_lay
set_option maxRecDepth 20000 in
theorem ggL_law_L_branch : GoodIn wsL_law wsL_branch := goodIn_ca (goodIn_ca (goodIn_ca (goodIn_r _ [302, 77, 229, 78, 303, 304, 305, 2, 306, 83, 84, 234, 235, 85, 86, 16, 177, 178, 179, 88, 89, 90, 307, 308, 309, 15, 310, 32, 95, 96, 240, 241, 242, 243, 244, 245, 246, 44, 36, 247, 248, 249, 250, 251, 252, 253, 254, 31, 47, 97, 98, 99, 100, 101, 102, 103, 255, 256, 257, 258, 33, 259, 92, 93, 94, 108, 109, 110, 111, 112, 17, 113, 114, 115, 116, 117, 118, 119, 120, 34, 35, 43, 45, 46, 121, 122, 123, 124, 125, 126, 127, 128, 129, 130, 131, 260, 261, 262, 263, 134, 135, 264, 265, 132, 133, 846, 847, 848, 849, 850, 864, 865, 866, 867, 868, 869, 870, 871, 872, 873, 874, 875] (by decide +kernel) (by decide +kernel)) (goodIn_sub (fun _ h => List.mem_append_left _ (List.mem_append_left _ (List.mem_append_right _ h))) (by decide +kernel))) (goodIn_sub (fun _ h => List.mem_append_right _ h) (by decide +kernel))) (goodIn_sub (fun _ h => List.mem_append_left _ (List.mem_append_right _ h)) (by decide +kernel))
set_option maxRecDepth 20000 in
theorem gL_law_L_branch : GoodIn wsL_law (va_wsS RL 105 yL_branch wsL_branch) := goodIn_app (goodIn_of _ (by decide +kernel)) ggL_law_L_branch
set_option maxRecDepth 20000 in
theorem ggL_law_X4_branch : GoodIn wsL_law wsX4_branch := goodIn_r _ [314, 140, 193, 194, 5, 195, 144, 145, 146, 141, 142, 143, 284, 285, 286, 287, 65, 274, 275, 276, 277, 278, 279, 280, 270, 271, 272, 273, 281, 282, 283, 196, 197, 198, 199, 288, 289, 290, 291, 292, 293, 294, 295, 159, 160, 161, 162, 163, 66, 296, 297, 298, 299, 851, 852, 853, 854, 855, 856, 857, 858, 859, 860, 861, 862, 863] (by decide +kernel) (by decide +kernel)
set_option maxRecDepth 20000 in
theorem gL_law_X4_branch : GoodIn wsL_law (wsV RL 107 RX4 yX4_branch wsX4_branch) := goodIn_app (goodIn_of _ (by decide +kernel)) ggL_law_X4_branch
set_option maxRecDepth 20000 in
theorem ggL_law_L_takeUp : GoodIn wsL_law wsL_takeUp := goodIn_ca (goodIn_r _ [317, 77, 318, 319, 320, 2, 321, 83, 84, 16, 177, 178, 179, 108, 109, 110, 111, 112, 17, 113, 114, 115, 116, 117, 118, 119, 15, 120, 31, 32, 33, 34, 35, 36, 43, 44, 45, 46, 47, 121, 122, 123, 124, 125, 126, 127, 128, 129, 130, 131, 322, 323, 324, 325, 95, 96, 326, 308, 309, 310, 327, 328, 329, 330, 134, 135, 331, 332, 99, 333, 334, 846, 847, 848, 849, 850, 864, 865, 866, 867, 868, 869, 870, 871, 872, 873, 874, 875] (by decide +kernel) (by decide +kernel)) (goodIn_sub (fun _ h => List.mem_append_left _ (List.mem_append_left _ (List.mem_append_right _ h))) (by decide +kernel))
set_option maxRecDepth 20000 in
theorem gL_law_L_takeUp : GoodIn wsL_law (va_wsS RL 108 yL_takeUp wsL_takeUp) := goodIn_app (goodIn_of _ (by decide +kernel)) ggL_law_L_takeUp
