/-! the law's calls: words, 2 -/
set_option maxRecDepth 20000 in
theorem ggL_law_X4_takeUp : GoodIn wsL_law wsX4_takeUp := goodIn_r _ [338, 140, 65, 193, 194, 5, 195, 144, 145, 146, 159, 160, 161, 162, 163, 66, 284, 285, 286, 287, 70, 71, 72, 339, 340, 341, 342, 851, 852, 853, 854, 855, 856, 857, 858, 859, 860, 861, 862, 863] (by decide +kernel) (by decide +kernel)
set_option maxRecDepth 20000 in
theorem gL_law_X4_takeUp : GoodIn wsL_law (wsV RL 110 RX4 yX4_takeUp wsX4_takeUp) := goodIn_app (goodIn_of _ (by decide +kernel)) ggL_law_X4_takeUp
set_option maxRecDepth 20000 in
theorem ggL_law_L_give : GoodIn wsL_law wsL_give := goodIn_ca (goodIn_ca (goodIn_ca (goodIn_r _ [345, 77, 229, 78, 346, 347, 348, 2, 349, 83, 84, 234, 235, 85, 86, 16, 350, 351, 177, 178, 179, 132, 95, 96, 108, 109, 110, 111, 112, 17, 113, 114, 115, 116, 117, 118, 119, 15, 120, 31, 32, 33, 34, 35, 36, 43, 44, 45, 46, 47, 121, 122, 123, 124, 125, 126, 127, 128, 129, 130, 131, 352, 264, 265, 133, 134, 135, 846, 847, 848, 849, 850, 864, 865, 866, 867, 868, 869, 870, 871, 872, 873, 874, 875] (by decide +kernel) (by decide +kernel)) (goodIn_sub (fun _ h => List.mem_append_left _ (List.mem_append_left _ (List.mem_append_right _ h))) (by decide +kernel))) (goodIn_sub (fun _ h => List.mem_append_right _ h) (by decide +kernel))) (goodIn_sub (fun _ h => List.mem_append_left _ (List.mem_append_right _ h)) (by decide +kernel))
set_option maxRecDepth 20000 in
theorem gL_law_L_give : GoodIn wsL_law (va_wsS RL 111 yL_give wsL_give) := goodIn_app (goodIn_of _ (by decide +kernel)) ggL_law_L_give
set_option maxRecDepth 20000 in
theorem ggL_law_X4_give : GoodIn wsL_law wsX4_give := goodIn_r _ [356, 140, 357, 65, 193, 194, 5, 195, 144, 145, 146, 270, 271, 272, 273, 159, 160, 161, 162, 163, 66, 851, 852, 853, 854, 855, 856, 857, 858, 859, 860, 861, 862, 863] (by decide +kernel) (by decide +kernel)
set_option maxRecDepth 20000 in
theorem gL_law_X4_give : GoodIn wsL_law (wsV RL 113 RX4 yX4_give wsX4_give) := goodIn_app (goodIn_of _ (by decide +kernel)) ggL_law_X4_give
set_option maxRecDepth 20000 in
theorem ggL_law_L_set : GoodIn wsL_law wsL_set := goodIn_ca (goodIn_ca (goodIn_r _ [360, 77, 229, 361, 362, 363, 2, 364, 83, 84, 234, 235, 16, 365, 366, 367, 368, 369, 370, 371, 108, 109, 110, 111, 112, 17, 113, 114, 115, 116, 117, 118, 119, 15, 120, 31, 32, 33, 34, 35, 36, 43, 44, 45, 46, 47, 121, 122, 123, 124, 125, 126, 127, 128, 129, 130, 131, 132, 95, 96, 133, 134, 135, 846, 847, 848, 849, 850, 864, 865, 866, 867, 868, 869, 870, 871, 872, 873, 874, 875] (by decide +kernel) (by decide +kernel)) (goodIn_sub (fun _ h => List.mem_append_left _ (List.mem_append_left _ (List.mem_append_right _ h))) (by decide +kernel))) (goodIn_sub (fun _ h => List.mem_append_right _ h) (by decide +kernel))
set_option maxRecDepth 20000 in
theorem gL_law_L_set : GoodIn wsL_law (va_wsS RL 114 yL_set wsL_set) := goodIn_app (goodIn_of _ (by decide +kernel)) ggL_law_L_set
set_option maxRecDepth 20000 in
theorem ggL_law_X4_set : GoodIn wsL_law wsX4_set := goodIn_r _ [375, 140, 65, 144, 145, 5, 146, 159, 160, 161, 162, 163, 66, 851, 852, 853, 854, 855, 856, 857, 858, 859, 860, 861, 862, 863] (by decide +kernel) (by decide +kernel)
set_option maxRecDepth 20000 in
theorem gL_law_X4_set : GoodIn wsL_law (wsV RL 116 RX4 yX4_set wsX4_set) := goodIn_app (goodIn_of _ (by decide +kernel)) ggL_law_X4_set
set_option maxRecDepth 20000 in
theorem ggL_law_L_append : GoodIn wsL_law wsL_append := goodIn_ca (goodIn_ca (goodIn_r _ [378, 229, 78, 379, 380, 381, 2, 382, 234, 235, 85, 86, 21, 383, 384, 385, 386, 20, 387, 55, 388, 134, 135, 846, 847, 848, 849, 850, 876, 877] (by decide +kernel) (by decide +kernel)) (goodIn_sub (fun _ h => List.mem_append_right _ h) (by decide +kernel))) (goodIn_sub (fun _ h => List.mem_append_left _ (List.mem_append_right _ h)) (by decide +kernel))
set_option maxRecDepth 20000 in
theorem gL_law_L_append : GoodIn wsL_law (va_wsS RL 117 yL_append wsL_append) := goodIn_app (goodIn_of _ (by decide +kernel)) ggL_law_L_append
set_option maxRecDepth 20000 in
theorem ggL_law_X4_append : GoodIn wsL_law wsX4_append := goodIn_r _ [392, 393, 140, 67, 144, 145, 5, 146, 851, 852, 853, 854, 855, 856, 857, 858, 859, 860, 861, 862, 863] (by decide +kernel) (by decide +kernel)
set_option maxRecDepth 20000 in
theorem gL_law_X4_append : GoodIn wsL_law (wsV RL 119 RX4 yX4_append wsX4_append) := goodIn_app (goodIn_of _ (by decide +kernel)) ggL_law_X4_append
set_option maxRecDepth 20000 in
theorem ggL_law_X3_clearBuffer : GoodIn wsL_law wsX3_clearBuffer := goodIn_r _ [397, 21, 383, 846, 847, 848, 849, 850, 876, 877] (by decide +kernel) (by decide +kernel)
set_option maxRecDepth 20000 in
theorem gL_law_X3_clearBuffer : GoodIn wsL_law (wsV RL 120 RX3 yX3_clearBuffer wsX3_clearBuffer) := goodIn_app (goodIn_of _ (by decide +kernel)) ggL_law_X3_clearBuffer
set_option maxRecDepth 20000 in
theorem ggL_law_X4_clearBuffer : GoodIn wsL_law wsX4_clearBuffer := goodIn_r _ [401, 140, 393, 851, 852, 853, 854, 855, 856, 857, 858, 859, 860, 861, 862, 863] (by decide +kernel) (by decide +kernel)
set_option maxRecDepth 20000 in
theorem gL_law_X4_clearBuffer : GoodIn wsL_law (wsV RL 123 RX4 yX4_clearBuffer wsX4_clearBuffer) := goodIn_app (goodIn_of _ (by decide +kernel)) ggL_law_X4_clearBuffer
set_option maxRecDepth 20000 in
theorem ggL_law_X3_firstError : GoodIn wsL_law wsX3_firstError := goodIn_r _ [405, 21, 406, 407, 408, 20, 409, 388, 55, 95, 2, 96, 410, 411, 412, 413, 414, 415, 416, 417, 418, 846, 847, 848, 849, 850, 876, 877] (by decide +kernel) (by decide +kernel)
set_option maxRecDepth 20000 in
theorem gL_law_X3_firstError : GoodIn wsL_law (wsV RL 124 RX3 yX3_firstError wsX3_firstError) := goodIn_app (goodIn_of _ (by decide +kernel)) ggL_law_X3_firstError
set_option maxRecDepth 20000 in
theorem ggL_law_X4_firstError : GoodIn wsL_law wsX4_firstError := goodIn_r _ [422, 140, 423, 424, 425, 5, 426, 427, 428, 393, 67, 429, 430, 431, 432, 433, 68, 193, 194, 195, 144, 145, 146, 434, 435, 436, 437, 438, 439, 440, 851, 852, 853, 854, 855, 856, 857, 858, 859, 860, 861, 862, 863] (by decide +kernel) (by decide +kernel)
set_option maxRecDepth 20000 in
theorem gL_law_X4_firstError : GoodIn wsL_law (wsV RL 127 RX4 yX4_firstError wsX4_firstError) := goodIn_app (goodIn_of _ (by decide +kernel)) ggL_law_X4_firstError
set_option maxRecDepth 20000 in
theorem ggL_law_L_play : GoodIn wsL_law wsL_play := goodIn_ca (goodIn_r _ [443, 229, 444, 445, 446, 2, 447, 234, 235, 21, 16, 383, 448, 449, 450, 20, 451, 388, 55, 95, 96, 410, 411, 412, 413, 414, 415, 416, 417, 418, 108, 109, 110, 111, 112, 17, 113, 114, 115, 116, 117, 118, 119, 15, 120, 31, 32, 33, 34, 35, 36, 43, 44, 45, 46, 47, 121, 122, 123, 124, 125, 126, 127, 128, 129, 130, 131, 452, 453, 454, 455, 456, 457, 244, 245, 246, 247, 248, 249, 250, 251, 252, 253, 254, 97, 98, 99, 100, 101, 102, 103, 255, 256, 257, 258, 259, 92, 93, 94, 458, 261, 262, 263, 134, 135, 264, 265, 132, 133, 846, 847, 848, 849, 850, 876, 877, 864, 865, 866, 867, 868, 869, 870, 871, 872, 873, 874, 875] (by decide +kernel) (by decide +kernel)) (goodIn_sub (fun _ h => List.mem_append_right _ h) (by decide +kernel))
set_option maxRecDepth 20000 in
theorem gL_law_L_play : GoodIn wsL_law (va_wsS RL 128 yL_play wsL_play) := goodIn_app (goodIn_of _ (by decide +kernel)) ggL_law_L_play
set_option maxRecDepth 20000 in
theorem ggL_law_X4_play : GoodIn wsL_law wsX4_play := goodIn_r _ [462, 140, 427, 393, 463, 464, 465, 5, 466, 428, 423, 424, 425, 426, 67, 429, 430, 431, 432, 433, 68, 193, 194, 195, 144, 145, 146, 434, 435, 436, 437, 438, 439, 440, 159, 160, 161, 162, 163, 66, 65, 467, 468, 469, 470, 270, 271, 272, 273, 274, 275, 276, 277, 278, 279, 280, 281, 282, 283, 196, 197, 198, 199, 284, 285, 286, 287, 288, 289, 290, 291, 292, 293, 294, 295, 296, 297, 298, 299, 851, 852, 853, 854, 855, 856, 857, 858, 859, 860, 861, 862, 863] (by decide +kernel) (by decide +kernel)
set_option maxRecDepth 20000 in
theorem gL_law_X4_play : GoodIn wsL_law (wsV RL 131 RX4 yX4_play wsX4_play) := goodIn_app (goodIn_of _ (by decide +kernel)) ggL_law_X4_play
set_option maxRecDepth 20000 in
theorem ggL_law_L_undo : GoodIn wsL_law wsL_undo := goodIn_ca (goodIn_r _ [473, 78, 474, 475, 476, 2, 477, 85, 86, 112, 17, 16, 117, 118, 119, 15, 120, 31, 32, 33, 34, 35, 36, 43, 44, 45, 46, 47, 121, 122, 123, 124, 125, 126, 127, 128, 129, 130, 131, 846, 847, 848, 849, 850, 864, 865, 866, 867, 868, 869, 870, 871, 872, 873, 874, 875] (by decide +kernel) (by decide +kernel)) (goodIn_sub (fun _ h => List.mem_append_left _ (List.mem_append_right _ h)) (by decide +kernel))
set_option maxRecDepth 20000 in
theorem gL_law_L_undo : GoodIn wsL_law (va_wsS RL 132 yL_undo wsL_undo) := goodIn_app (goodIn_of _ (by decide +kernel)) ggL_law_L_undo
