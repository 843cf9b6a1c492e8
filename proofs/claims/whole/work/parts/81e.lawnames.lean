/-! the law's calls: words, 4 -/
set_option maxRecDepth 20000 in
theorem ggL_law_X4_away : GoodIn wsL_law wsX4_away := goodIn_r _ [695, 140, 193, 194, 5, 195, 144, 145, 146, 141, 142, 143, 696, 697, 698, 699, 69, 700, 701, 702, 703, 704, 284, 285, 286, 287, 65, 278, 279, 280, 292, 293, 294, 295, 288, 289, 290, 291, 705, 706, 707, 708, 196, 197, 198, 199, 851, 852, 853, 854, 855, 856, 857, 858, 859, 860, 861, 862, 863] (by decide +kernel) (by decide +kernel)
set_option maxRecDepth 20000 in
theorem gL_law_X4_away : GoodIn wsL_law (wsV RL 155 RX4 yX4_away wsX4_away) := goodIn_app (goodIn_of _ (by decide +kernel)) ggL_law_X4_away
set_option maxRecDepth 20000 in
theorem ggL_law_L_cheapest : GoodIn wsL_law wsL_cheapest := goodIn_ca (goodIn_r _ [711, 77, 712, 713, 714, 2, 715, 83, 84, 25, 16, 177, 178, 179, 88, 89, 90, 716, 717, 718, 24, 719, 59, 682, 308, 309, 15, 310, 32, 95, 96, 134, 135, 720, 721, 722, 723, 691, 252, 253, 254, 31, 47, 97, 98, 99, 100, 101, 102, 103, 247, 248, 724, 725, 124, 125, 126, 127, 726, 256, 257, 258, 33, 259, 92, 93, 94, 846, 847, 848, 849, 850, 878, 879, 880, 864, 865, 866, 867, 868, 869, 870, 871, 872, 873, 874, 875] (by decide +kernel) (by decide +kernel)) (goodIn_sub (fun _ h => List.mem_append_left _ (List.mem_append_left _ (List.mem_append_right _ h))) (by decide +kernel))
set_option maxRecDepth 20000 in
theorem gL_law_L_cheapest : GoodIn wsL_law (va_wsS RL 156 yL_cheapest wsL_cheapest) := goodIn_app (goodIn_of _ (by decide +kernel)) ggL_law_L_cheapest
set_option maxRecDepth 20000 in
theorem ggL_law_X4_cheapest : GoodIn wsL_law wsX4_cheapest := goodIn_r _ [730, 140, 193, 194, 5, 195, 144, 145, 146, 141, 142, 143, 696, 697, 698, 699, 69, 700, 701, 702, 703, 704, 284, 285, 286, 287, 65, 278, 279, 280, 292, 293, 294, 295, 288, 289, 290, 291, 705, 706, 707, 708, 196, 197, 198, 199, 851, 852, 853, 854, 855, 856, 857, 858, 859, 860, 861, 862, 863] (by decide +kernel) (by decide +kernel)
set_option maxRecDepth 20000 in
theorem gL_law_X4_cheapest : GoodIn wsL_law (wsV RL 158 RX4 yX4_cheapest wsX4_cheapest) := goodIn_app (goodIn_of _ (by decide +kernel)) ggL_law_X4_cheapest
set_option maxRecDepth 20000 in
theorem ggL_law_L_best : GoodIn wsL_law wsL_best := goodIn_ca (goodIn_ca (goodIn_r _ [733, 77, 229, 734, 735, 736, 2, 737, 83, 84, 234, 235, 25, 16, 177, 178, 179, 237, 238, 239, 738, 739, 740, 24, 741, 742, 59, 743, 744, 745, 746, 747, 676, 677, 678, 679, 680, 681, 49, 50, 51, 95, 96, 748, 749, 750, 15, 751, 35, 34, 326, 308, 309, 310, 32, 691, 252, 253, 254, 31, 47, 97, 98, 99, 100, 101, 102, 103, 683, 684, 685, 686, 60, 134, 135, 687, 688, 689, 690, 247, 248, 752, 753, 754, 755, 682, 724, 725, 124, 125, 126, 127, 756, 244, 245, 246, 44, 36, 249, 250, 251, 255, 256, 257, 258, 33, 259, 92, 93, 94, 726, 846, 847, 848, 849, 850, 864, 865, 866, 867, 868, 869, 870, 871, 872, 873, 874, 875, 878, 879, 880] (by decide +kernel) (by decide +kernel)) (goodIn_sub (fun _ h => List.mem_append_left _ (List.mem_append_left _ (List.mem_append_right _ h))) (by decide +kernel))) (goodIn_sub (fun _ h => List.mem_append_right _ h) (by decide +kernel))
set_option maxRecDepth 20000 in
theorem gL_law_L_best : GoodIn wsL_law (va_wsS RL 159 yL_best wsL_best) := goodIn_app (goodIn_of _ (by decide +kernel)) ggL_law_L_best
set_option maxRecDepth 20000 in
theorem ggL_law_X4_best : GoodIn wsL_law wsX4_best := goodIn_r _ [760, 140, 193, 194, 5, 195, 144, 145, 146, 761, 762, 763, 764, 765, 700, 766, 767, 768, 769, 222, 223, 224, 225, 151, 152, 153, 154, 65, 155, 156, 157, 158, 526, 527, 528, 529, 284, 285, 286, 287, 270, 271, 272, 273, 274, 275, 276, 277, 278, 279, 280, 281, 282, 283, 196, 197, 198, 199, 288, 289, 290, 291, 292, 293, 294, 295, 770, 771, 772, 773, 69, 701, 702, 703, 704, 705, 706, 707, 708, 851, 852, 853, 854, 855, 856, 857, 858, 859, 860, 861, 862, 863] (by decide +kernel) (by decide +kernel)
set_option maxRecDepth 20000 in
theorem gL_law_X4_best : GoodIn wsL_law (wsV RL 161 RX4 yX4_best wsX4_best) := goodIn_app (goodIn_of _ (by decide +kernel)) ggL_law_X4_best
set_option maxRecDepth 20000 in
theorem ggL_law_X3_ahead : GoodIn wsL_law wsX3_ahead := goodIn_r _ [777, 16, 778, 779, 780, 15, 781, 36, 564, 557, 558, 559, 35, 34, 95, 2, 96, 326, 308, 309, 310, 32, 846, 847, 848, 849, 850, 864, 865, 866, 867, 868, 869, 870, 871, 872, 873, 874, 875] (by decide +kernel) (by decide +kernel)
set_option maxRecDepth 20000 in
theorem gL_law_X3_ahead : GoodIn wsL_law (wsV RL 162 RX3 yX3_ahead wsX3_ahead) := goodIn_app (goodIn_of _ (by decide +kernel)) ggL_law_X3_ahead
set_option maxRecDepth 20000 in
theorem ggL_law_X4_ahead : GoodIn wsL_law wsX4_ahead := goodIn_r _ [785, 140, 786, 787, 788, 5, 789, 578, 579, 580, 581, 222, 223, 224, 225, 144, 145, 146, 151, 152, 153, 154, 65, 155, 156, 157, 158, 526, 527, 528, 529, 284, 285, 286, 287, 270, 271, 272, 273, 851, 852, 853, 854, 855, 856, 857, 858, 859, 860, 861, 862, 863] (by decide +kernel) (by decide +kernel)
set_option maxRecDepth 20000 in
theorem gL_law_X4_ahead : GoodIn wsL_law (wsV RL 165 RX4 yX4_ahead wsX4_ahead) := goodIn_app (goodIn_of _ (by decide +kernel)) ggL_law_X4_ahead
set_option maxRecDepth 20000 in
theorem ggL_law_X3_shared : GoodIn wsL_law wsX3_shared := goodIn_r _ [793, 16, 794, 795, 796, 15, 797, 798, 618, 619, 620, 259, 92, 93, 94, 32, 95, 2, 96, 97, 98, 99, 100, 101, 102, 103, 846, 847, 848, 849, 850, 864, 865, 866, 867, 868, 869, 870, 871, 872, 873, 874, 875] (by decide +kernel) (by decide +kernel)
set_option maxRecDepth 20000 in
theorem gL_law_X3_shared : GoodIn wsL_law (wsV RL 166 RX3 yX3_shared wsX3_shared) := goodIn_app (goodIn_of _ (by decide +kernel)) ggL_law_X3_shared
set_option maxRecDepth 20000 in
theorem ggL_law_X4_shared : GoodIn wsL_law wsX4_shared := goodIn_r _ [802, 140, 803, 804, 805, 5, 806, 642, 643, 644, 645, 288, 289, 290, 291, 65, 851, 852, 853, 854, 855, 856, 857, 858, 859, 860, 861, 862, 863] (by decide +kernel) (by decide +kernel)
set_option maxRecDepth 20000 in
theorem gL_law_X4_shared : GoodIn wsL_law (wsV RL 170 RX4 yX4_shared wsX4_shared) := goodIn_app (goodIn_of _ (by decide +kernel)) ggL_law_X4_shared
set_option maxRecDepth 20000 in
theorem ggL_law_X3_digest : GoodIn wsL_law wsX3_digest := goodIn_r _ [810, 811, 812, 16, 365, 21, 383, 813, 604, 605, 606, 2, 607, 87, 608, 542, 112, 609, 610, 611, 612, 613, 614, 15, 615, 616, 215, 216, 217, 34, 95, 96, 617, 618, 619, 620, 259, 92, 93, 94, 32, 97, 98, 99, 100, 101, 102, 103, 621, 622, 623, 624, 625, 561, 562, 563, 564, 557, 558, 559, 35, 326, 308, 309, 310, 565, 553, 554, 555, 132, 489, 490, 491, 492, 493, 494, 104, 105, 106, 107, 510, 511, 512, 513, 175, 176, 214, 514, 515, 516, 517, 814, 815, 816, 817, 25, 236, 537, 538, 539, 540, 350, 541, 543, 544, 545, 546, 547, 548, 549, 550, 551, 33, 552, 556, 560, 672, 673, 674, 24, 675, 59, 676, 677, 678, 679, 680, 681, 49, 50, 51, 682, 683, 684, 685, 686, 60, 134, 135, 687, 688, 689, 690, 247, 248, 691, 252, 253, 254, 31, 47, 716, 717, 718, 719, 720, 721, 722, 723, 724, 725, 124, 125, 126, 127, 726, 256, 257, 258, 243, 244, 245, 246, 44, 36, 249, 250, 251, 255, 738, 739, 740, 741, 742, 743, 744, 745, 746, 747, 748, 749, 750, 751, 752, 753, 754, 755, 756, 778, 779, 780, 781, 794, 795, 796, 797, 798, 818, 819, 820, 821, 822, 823, 846, 847, 848, 849, 850, 864, 865, 866, 867, 868, 869, 870, 871, 872, 873, 874, 875, 876, 877, 878, 879, 880] (by decide +kernel) (by decide +kernel)
set_option maxRecDepth 20000 in
theorem gL_law_X3_digest : GoodIn wsL_law (wsV RL 171 RX3 yX3_digest wsX3_digest) := goodIn_app (goodIn_of _ (by decide +kernel)) ggL_law_X3_digest
set_option maxRecDepth 20000 in
theorem ggL_law_X4_digest : GoodIn wsL_law wsX4_digest := goodIn_r _ [827, 140, 828, 829, 65, 393, 67, 630, 631, 632, 5, 633, 163, 634, 635, 636, 637, 638, 639, 640, 641, 222, 223, 224, 225, 144, 145, 146, 151, 152, 153, 154, 642, 643, 644, 645, 288, 289, 290, 291, 646, 647, 648, 649, 270, 271, 272, 273, 650, 651, 652, 653, 582, 583, 584, 585, 578, 579, 580, 581, 155, 156, 157, 158, 526, 527, 528, 529, 284, 285, 286, 287, 830, 831, 832, 833, 834, 499, 500, 501, 502, 147, 148, 149, 150, 522, 523, 524, 525, 835, 836, 837, 838, 570, 571, 572, 573, 574, 575, 576, 577, 696, 697, 698, 699, 69, 700, 701, 702, 703, 704, 278, 279, 280, 292, 293, 294, 295, 705, 706, 707, 708, 196, 197, 198, 199, 274, 275, 276, 277, 281, 282, 283, 761, 762, 763, 764, 765, 766, 767, 768, 769, 770, 771, 772, 773, 786, 787, 788, 789, 803, 804, 805, 806, 839, 840, 841, 842, 843, 844, 845, 851, 852, 853, 854, 855, 856, 857, 858, 859, 860, 861, 862, 863] (by decide +kernel) (by decide +kernel)
set_option maxRecDepth 20000 in
theorem gL_law_X4_digest : GoodIn wsL_law (wsV RL 175 RX4 yX4_digest wsX4_digest) := goodIn_app (goodIn_of _ (by decide +kernel)) ggL_law_X4_digest
