/-! the law's calls: words, 3 -/
set_option maxRecDepth 20000 in
theorem ggL_law_X4_undo : GoodIn wsL_law wsX4_undo := goodIn_r _ [481, 163, 140, 65, 66, 851, 852, 853, 854, 855, 856, 857, 858, 859, 860, 861, 862, 863] (by decide +kernel) (by decide +kernel)
set_option maxRecDepth 20000 in
theorem gL_law_X4_undo : GoodIn wsL_law (wsV RL 134 RX4 yX4_undo wsX4_undo) := goodIn_app (goodIn_of _ (by decide +kernel)) ggL_law_X4_undo
set_option maxRecDepth 20000 in
theorem ggL_law_L_square : GoodIn wsL_law wsL_square := goodIn_ca (goodIn_ca (goodIn_r _ [484, 77, 229, 485, 486, 487, 2, 488, 83, 84, 234, 235, 88, 89, 90, 489, 490, 491, 492, 16, 493, 494, 87, 132, 95, 96, 104, 105, 106, 15, 107, 34, 846, 847, 848, 849, 850, 864, 865, 866, 867, 868, 869, 870, 871, 872, 873, 874, 875] (by decide +kernel) (by decide +kernel)) (goodIn_sub (fun _ h => List.mem_append_left _ (List.mem_append_left _ (List.mem_append_right _ h))) (by decide +kernel))) (goodIn_sub (fun _ h => List.mem_append_right _ h) (by decide +kernel))
set_option maxRecDepth 20000 in
theorem gL_law_L_square : GoodIn wsL_law (va_wsS RL 135 yL_square wsL_square) := goodIn_app (goodIn_of _ (by decide +kernel)) ggL_law_L_square
set_option maxRecDepth 20000 in
theorem ggL_law_X4_square : GoodIn wsL_law wsX4_square := goodIn_r _ [498, 140, 141, 142, 5, 143, 144, 145, 146, 499, 500, 501, 502, 65, 147, 148, 149, 150, 151, 152, 153, 154, 155, 156, 157, 158, 851, 852, 853, 854, 855, 856, 857, 858, 859, 860, 861, 862, 863] (by decide +kernel) (by decide +kernel)
set_option maxRecDepth 20000 in
theorem gL_law_X4_square : GoodIn wsL_law (wsV RL 137 RX4 yX4_square wsX4_square) := goodIn_app (goodIn_of _ (by decide +kernel)) ggL_law_X4_square
set_option maxRecDepth 20000 in
theorem ggL_law_L_stopOf : GoodIn wsL_law wsL_stopOf := goodIn_ca (goodIn_ca (goodIn_r _ [505, 77, 229, 506, 507, 508, 2, 509, 83, 84, 234, 235, 211, 212, 213, 510, 511, 512, 513, 16, 175, 176, 214, 215, 216, 15, 217, 34, 95, 96, 132, 514, 515, 516, 517, 35, 326, 308, 309, 310, 32, 846, 847, 848, 849, 850, 864, 865, 866, 867, 868, 869, 870, 871, 872, 873, 874, 875] (by decide +kernel) (by decide +kernel)) (goodIn_sub (fun _ h => List.mem_append_left _ (List.mem_append_left _ (List.mem_append_right _ h))) (by decide +kernel))) (goodIn_sub (fun _ h => List.mem_append_right _ h) (by decide +kernel))
set_option maxRecDepth 20000 in
theorem gL_law_L_stopOf : GoodIn wsL_law (va_wsS RL 138 yL_stopOf wsL_stopOf) := goodIn_app (goodIn_of _ (by decide +kernel)) ggL_law_L_stopOf
set_option maxRecDepth 20000 in
theorem ggL_law_X4_stopOf : GoodIn wsL_law wsX4_stopOf := goodIn_r _ [521, 140, 144, 145, 5, 146, 522, 523, 524, 525, 65, 222, 223, 224, 225, 151, 152, 153, 154, 526, 527, 528, 529, 155, 156, 157, 158, 284, 285, 286, 287, 851, 852, 853, 854, 855, 856, 857, 858, 859, 860, 861, 862, 863] (by decide +kernel) (by decide +kernel)
set_option maxRecDepth 20000 in
theorem gL_law_X4_stopOf : GoodIn wsL_law (wsV RL 140 RX4 yX4_stopOf wsX4_stopOf) := goodIn_app (goodIn_of _ (by decide +kernel)) ggL_law_X4_stopOf
set_option maxRecDepth 20000 in
theorem ggL_law_L_player : GoodIn wsL_law wsL_player := goodIn_ca (goodIn_ca (goodIn_r _ [532, 77, 229, 533, 534, 535, 2, 536, 83, 84, 234, 235, 177, 178, 179, 537, 538, 539, 540, 16, 350, 236, 541, 542, 543, 132, 95, 96, 544, 545, 546, 15, 547, 326, 308, 309, 310, 32, 548, 549, 550, 551, 33, 552, 553, 554, 555, 35, 556, 557, 558, 559, 34, 560, 561, 562, 563, 564, 565, 846, 847, 848, 849, 850, 864, 865, 866, 867, 868, 869, 870, 871, 872, 873, 874, 875] (by decide +kernel) (by decide +kernel)) (goodIn_sub (fun _ h => List.mem_append_left _ (List.mem_append_left _ (List.mem_append_right _ h))) (by decide +kernel))) (goodIn_sub (fun _ h => List.mem_append_right _ h) (by decide +kernel))
set_option maxRecDepth 20000 in
theorem gL_law_L_player : GoodIn wsL_law (va_wsS RL 141 yL_player wsL_player) := goodIn_app (goodIn_of _ (by decide +kernel)) ggL_law_L_player
set_option maxRecDepth 20000 in
theorem ggL_law_X4_player : GoodIn wsL_law wsX4_player := goodIn_r _ [569, 140, 193, 194, 5, 195, 144, 145, 146, 570, 571, 572, 573, 270, 271, 272, 273, 65, 574, 575, 576, 577, 284, 285, 286, 287, 578, 579, 580, 581, 222, 223, 224, 225, 151, 152, 153, 154, 155, 156, 157, 158, 526, 527, 528, 529, 582, 583, 584, 585, 851, 852, 853, 854, 855, 856, 857, 858, 859, 860, 861, 862, 863] (by decide +kernel) (by decide +kernel)
set_option maxRecDepth 20000 in
theorem gL_law_X4_player : GoodIn wsL_law (wsV RL 143 RX4 yX4_player wsX4_player) := goodIn_app (goodIn_of _ (by decide +kernel)) ggL_law_X4_player
set_option maxRecDepth 20000 in
theorem ggL_law_L_refusal : GoodIn wsL_law wsL_refusal := goodIn_ca (goodIn_ca (goodIn_r _ [588, 77, 229, 589, 590, 591, 2, 592, 83, 84, 234, 235, 16, 236, 177, 178, 179, 237, 238, 239, 240, 241, 242, 132, 95, 96, 243, 244, 245, 15, 246, 44, 36, 247, 248, 249, 250, 251, 252, 253, 254, 32, 31, 47, 97, 98, 99, 100, 101, 102, 103, 255, 256, 257, 258, 33, 259, 92, 93, 94, 846, 847, 848, 849, 850, 864, 865, 866, 867, 868, 869, 870, 871, 872, 873, 874, 875] (by decide +kernel) (by decide +kernel)) (goodIn_sub (fun _ h => List.mem_append_left _ (List.mem_append_left _ (List.mem_append_right _ h))) (by decide +kernel))) (goodIn_sub (fun _ h => List.mem_append_right _ h) (by decide +kernel))
set_option maxRecDepth 20000 in
theorem gL_law_L_refusal : GoodIn wsL_law (va_wsS RL 144 yL_refusal wsL_refusal) := goodIn_app (goodIn_of _ (by decide +kernel)) ggL_law_L_refusal
set_option maxRecDepth 20000 in
theorem ggL_law_X4_refusal : GoodIn wsL_law wsX4_refusal := goodIn_r _ [596, 140, 193, 194, 5, 195, 144, 145, 146, 270, 271, 272, 273, 65, 274, 275, 276, 277, 278, 279, 280, 281, 282, 283, 196, 197, 198, 199, 284, 285, 286, 287, 288, 289, 290, 291, 292, 293, 294, 295, 851, 852, 853, 854, 855, 856, 857, 858, 859, 860, 861, 862, 863] (by decide +kernel) (by decide +kernel)
set_option maxRecDepth 20000 in
theorem gL_law_X4_refusal : GoodIn wsL_law (wsV RL 146 RX4 yX4_refusal wsX4_refusal) := goodIn_app (goodIn_of _ (by decide +kernel)) ggL_law_X4_refusal
set_option maxRecDepth 20000 in
theorem ggL_law_L_count : GoodIn wsL_law wsL_count := goodIn_ca (goodIn_r _ [599, 229, 600, 601, 602, 2, 603, 234, 235, 604, 605, 606, 607, 16, 87, 608, 542, 112, 609, 610, 611, 612, 613, 614, 15, 615, 616, 215, 216, 217, 34, 95, 96, 617, 618, 619, 620, 259, 92, 93, 94, 32, 97, 98, 99, 100, 101, 102, 103, 621, 622, 623, 624, 625, 561, 562, 563, 564, 557, 558, 559, 35, 326, 308, 309, 310, 565, 553, 554, 555, 846, 847, 848, 849, 850, 864, 865, 866, 867, 868, 869, 870, 871, 872, 873, 874, 875] (by decide +kernel) (by decide +kernel)) (goodIn_sub (fun _ h => List.mem_append_right _ h) (by decide +kernel))
set_option maxRecDepth 20000 in
theorem gL_law_L_count : GoodIn wsL_law (va_wsS RL 147 yL_count wsL_count) := goodIn_app (goodIn_of _ (by decide +kernel)) ggL_law_L_count
set_option maxRecDepth 20000 in
theorem ggL_law_X4_count : GoodIn wsL_law wsX4_count := goodIn_r _ [629, 140, 144, 145, 5, 146, 630, 631, 632, 633, 65, 163, 634, 635, 636, 637, 638, 639, 640, 641, 222, 223, 224, 225, 151, 152, 153, 154, 642, 643, 644, 645, 288, 289, 290, 291, 646, 647, 648, 649, 270, 271, 272, 273, 650, 651, 652, 653, 582, 583, 584, 585, 578, 579, 580, 581, 155, 156, 157, 158, 526, 527, 528, 529, 284, 285, 286, 287, 851, 852, 853, 854, 855, 856, 857, 858, 859, 860, 861, 862, 863] (by decide +kernel) (by decide +kernel)
set_option maxRecDepth 20000 in
theorem gL_law_X4_count : GoodIn wsL_law (wsV RL 149 RX4 yX4_count wsX4_count) := goodIn_app (goodIn_of _ (by decide +kernel)) ggL_law_X4_count
set_option maxRecDepth 20000 in
theorem ggL_law_L_setting : GoodIn wsL_law wsL_setting := goodIn_ca (goodIn_r _ [656, 77, 657, 658, 659, 2, 660, 83, 84, 16, 365, 366, 367, 368, 132, 95, 96, 846, 847, 848, 849, 850, 864, 865, 866, 867, 868, 869, 870, 871, 872, 873, 874, 875] (by decide +kernel) (by decide +kernel)) (goodIn_sub (fun _ h => List.mem_append_left _ (List.mem_append_left _ (List.mem_append_right _ h))) (by decide +kernel))
set_option maxRecDepth 20000 in
theorem gL_law_L_setting : GoodIn wsL_law (va_wsS RL 150 yL_setting wsL_setting) := goodIn_app (goodIn_of _ (by decide +kernel)) ggL_law_L_setting
set_option maxRecDepth 20000 in
theorem ggL_law_X4_setting : GoodIn wsL_law wsX4_setting := goodIn_r _ [664, 140, 65, 144, 145, 5, 146, 851, 852, 853, 854, 855, 856, 857, 858, 859, 860, 861, 862, 863] (by decide +kernel) (by decide +kernel)
set_option maxRecDepth 20000 in
theorem gL_law_X4_setting : GoodIn wsL_law (wsV RL 152 RX4 yX4_setting wsX4_setting) := goodIn_app (goodIn_of _ (by decide +kernel)) ggL_law_X4_setting
set_option maxRecDepth 20000 in
theorem ggL_law_L_away : GoodIn wsL_law wsL_away := goodIn_ca (goodIn_r _ [667, 77, 668, 669, 670, 2, 671, 83, 84, 25, 16, 177, 178, 179, 88, 89, 90, 672, 673, 674, 24, 675, 59, 676, 677, 678, 679, 680, 681, 49, 50, 51, 682, 308, 309, 15, 310, 32, 95, 96, 683, 684, 685, 686, 60, 134, 135, 687, 688, 689, 690, 247, 248, 691, 252, 253, 254, 31, 47, 97, 98, 99, 100, 101, 102, 103, 846, 847, 848, 849, 850, 878, 879, 880, 864, 865, 866, 867, 868, 869, 870, 871, 872, 873, 874, 875] (by decide +kernel) (by decide +kernel)) (goodIn_sub (fun _ h => List.mem_append_left _ (List.mem_append_left _ (List.mem_append_right _ h))) (by decide +kernel))
set_option maxRecDepth 20000 in
theorem gL_law_L_away : GoodIn wsL_law (va_wsS RL 153 yL_away wsL_away) := goodIn_app (goodIn_of _ (by decide +kernel)) ggL_law_L_away
