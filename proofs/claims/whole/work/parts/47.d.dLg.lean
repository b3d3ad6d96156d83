set_option maxRecDepth 20000 in
theorem ggL_law_X5_read : GoodIn wsL_law wsX5_read := goodIn_r _ [659, 79, 274, 275, 5, 276, 153, 154, 155, 595, 596, 597, 598, 150, 151, 152, 168, 169, 170, 334, 335, 336, 277, 278, 279, 280, 281, 282, 226, 227, 228, 283, 284, 285, 229, 230, 231, 660, 661, 662, 663, 328, 329, 330, 331, 332, 333, 812, 813, 814, 815, 816, 817, 818, 819, 820, 821, 822, 823, 824, 825] (by decide +kernel) (by decide +kernel)
set_option maxRecDepth 20000 in
theorem gL_law_X5_read : GoodIn wsL_law (wsV RL 94 RX5 yX5_read wsX5_read) := goodIn_app (goodIn_of _ (by decide +kernel)) ggL_law_X5_read
set_option maxRecDepth 20000 in
theorem ggL_law_X4_seasonOf : GoodIn wsL_law wsX4_seasonOf := goodIn_r _ [667, 15, 640, 256, 257, 14, 258, 36, 668, 669, 670, 671, 37, 805, 806, 807, 808, 809, 810, 811, 826, 827, 828, 829, 830, 831] (by decide +kernel) (by decide +kernel)
set_option maxRecDepth 20000 in
theorem gL_law_X4_seasonOf : GoodIn wsL_law (wsV RL 95 RX4 yX4_seasonOf wsX4_seasonOf) := goodIn_app (goodIn_of _ (by decide +kernel)) ggL_law_X4_seasonOf
set_option maxRecDepth 20000 in
theorem ggL_law_X5_seasonOf : GoodIn wsL_law wsX5_seasonOf := goodIn_r _ [675, 79, 274, 275, 5, 276, 153, 154, 155, 280, 281, 282, 812, 813, 814, 815, 816, 817, 818, 819, 820, 821, 822, 823, 824, 825] (by decide +kernel) (by decide +kernel)
set_option maxRecDepth 20000 in
theorem gL_law_X5_seasonOf : GoodIn wsL_law (wsV RL 98 RX5 yX5_seasonOf wsX5_seasonOf) := goodIn_app (goodIn_of _ (by decide +kernel)) ggL_law_X5_seasonOf
set_option maxRecDepth 20000 in
theorem ggL_law_X4_view : GoodIn wsL_law wsX4_view := goodIn_r _ [679, 15, 216, 217, 214, 218, 640, 256, 257, 14, 258, 36, 680, 681, 682, 683, 37, 684, 604, 605, 606, 127, 128, 129, 130, 34, 685, 686, 687, 688, 689, 123, 124, 125, 126, 32, 690, 2, 691, 263, 264, 265, 266, 38, 206, 207, 208, 209, 35, 805, 806, 807, 808, 809, 810, 811, 826, 827, 828, 829, 830, 831] (by decide +kernel) (by decide +kernel)
set_option maxRecDepth 20000 in
theorem gL_law_X4_view : GoodIn wsL_law (wsV RL 99 RX4 yX4_view wsX4_view) := goodIn_app (goodIn_of _ (by decide +kernel)) ggL_law_X4_view
set_option maxRecDepth 20000 in
theorem ggL_law_X5_view : GoodIn wsL_law wsX5_view := goodIn_r _ [695, 79, 274, 275, 5, 276, 153, 154, 155, 696, 697, 698, 699, 280, 281, 282, 626, 627, 628, 168, 169, 170, 700, 701, 702, 703, 283, 284, 285, 226, 227, 228, 812, 813, 814, 815, 816, 817, 818, 819, 820, 821, 822, 823, 824, 825] (by decide +kernel) (by decide +kernel)
set_option maxRecDepth 20000 in
theorem gL_law_X5_view : GoodIn wsL_law (wsV RL 102 RX5 yX5_view wsX5_view) := goodIn_app (goodIn_of _ (by decide +kernel)) ggL_law_X5_view
set_option maxRecDepth 20000 in
theorem ggL_law_X4_viewColumn : GoodIn wsL_law wsX4_viewColumn := goodIn_r _ [707, 15, 640, 256, 257, 14, 258, 36, 588, 111, 2, 112, 680, 681, 682, 683, 37, 684, 604, 605, 606, 127, 128, 129, 130, 34, 708, 690, 691, 709, 710, 711, 712, 713, 217, 214, 218, 259, 260, 261, 262, 714, 715, 716, 717, 263, 264, 265, 266, 38, 718, 719, 720, 721, 345, 213, 215, 722, 723, 724, 725, 726, 727, 728, 729, 730, 731, 732, 733, 805, 806, 807, 808, 809, 810, 811, 826, 827, 828, 829, 830, 831] (by decide +kernel) (by decide +kernel)
set_option maxRecDepth 20000 in
theorem gL_law_X4_viewColumn : GoodIn wsL_law (wsV RL 103 RX4 yX4_viewColumn wsX4_viewColumn) := goodIn_app (goodIn_of _ (by decide +kernel)) ggL_law_X4_viewColumn
set_option maxRecDepth 20000 in
theorem ggL_law_X5_viewColumn : GoodIn wsL_law wsX5_viewColumn := goodIn_r _ [737, 79, 274, 275, 5, 276, 153, 154, 155, 150, 151, 152, 696, 697, 698, 699, 280, 281, 282, 626, 627, 628, 168, 169, 170, 283, 284, 285, 738, 739, 740, 741, 742, 743, 744, 745, 277, 278, 279, 812, 813, 814, 815, 816, 817, 818, 819, 820, 821, 822, 823, 824, 825] (by decide +kernel) (by decide +kernel)
set_option maxRecDepth 20000 in
theorem gL_law_X5_viewColumn : GoodIn wsL_law (wsV RL 106 RX5 yX5_viewColumn wsX5_viewColumn) := goodIn_app (goodIn_of _ (by decide +kernel)) ggL_law_X5_viewColumn
set_option maxRecDepth 20000 in
theorem ggL_law_X4_bestFrom : GoodIn wsL_law wsX4_bestFrom := goodIn_r _ [749, 15, 750, 751, 752, 14, 753, 36, 37, 684, 604, 605, 606, 127, 128, 129, 130, 34, 754, 608, 609, 610, 611, 612, 613, 805, 806, 807, 808, 809, 810, 811, 826, 827, 828, 829, 830, 831] (by decide +kernel) (by decide +kernel)
set_option maxRecDepth 20000 in
theorem gL_law_X4_bestFrom : GoodIn wsL_law (wsV RL 107 RX4 yX4_bestFrom wsX4_bestFrom) := goodIn_app (goodIn_of _ (by decide +kernel)) ggL_law_X4_bestFrom
set_option maxRecDepth 20000 in
theorem ggL_law_X5_bestFrom : GoodIn wsL_law wsX5_bestFrom := goodIn_r _ [758, 79, 696, 697, 698, 5, 699, 280, 281, 282, 626, 627, 628, 168, 169, 170, 629, 630, 631, 812, 813, 814, 815, 816, 817, 818, 819, 820, 821, 822, 823, 824, 825] (by decide +kernel) (by decide +kernel)
set_option maxRecDepth 20000 in
theorem gL_law_X5_bestFrom : GoodIn wsL_law (wsV RL 110 RX5 yX5_bestFrom wsX5_bestFrom) := goodIn_app (goodIn_of _ (by decide +kernel)) ggL_law_X5_bestFrom
set_option maxRecDepth 20000 in
theorem ggL_law_X4_bestSeason : GoodIn wsL_law wsX4_bestSeason := goodIn_r _ [762, 15, 763, 764, 765, 14, 766, 123, 124, 125, 126, 32, 767, 768, 769, 770, 36, 306, 307, 308, 309, 259, 260, 261, 262, 37, 127, 128, 129, 130, 34, 263, 264, 265, 266, 38, 310, 2, 311, 312, 210, 211, 212, 213, 214, 215, 216, 217, 218, 117, 118, 119, 120, 121, 122, 771, 805, 806, 807, 808, 809, 810, 811, 826, 827, 828, 829, 830, 831] (by decide +kernel) (by decide +kernel)
set_option maxRecDepth 20000 in
theorem gL_law_X4_bestSeason : GoodIn wsL_law (wsV RL 111 RX4 yX4_bestSeason wsX4_bestSeason) := goodIn_app (goodIn_of _ (by decide +kernel)) ggL_law_X4_bestSeason
set_option maxRecDepth 20000 in
theorem ggL_law_X5_bestSeason : GoodIn wsL_law wsX5_bestSeason := goodIn_r _ [775, 79, 153, 154, 5, 155, 776, 777, 778, 779, 325, 326, 327, 328, 329, 330, 277, 278, 279, 280, 281, 282, 168, 169, 170, 283, 284, 285, 331, 332, 333, 229, 230, 231, 812, 813, 814, 815, 816, 817, 818, 819, 820, 821, 822, 823, 824, 825] (by decide +kernel) (by decide +kernel)
set_option maxRecDepth 20000 in
theorem gL_law_X5_bestSeason : GoodIn wsL_law (wsV RL 114 RX5 yX5_bestSeason wsX5_bestSeason) := goodIn_app (goodIn_of _ (by decide +kernel)) ggL_law_X5_bestSeason
set_option maxRecDepth 20000 in
theorem ggL_law_X4_count : GoodIn wsL_law wsX4_count := goodIn_r _ [783, 15, 19, 25, 784, 124, 125, 14, 126, 32, 603, 604, 605, 606, 127, 128, 129, 130, 34, 607, 608, 609, 610, 611, 612, 613, 614, 615, 616, 617, 36, 37, 785, 786, 787, 788, 684, 754, 771, 768, 769, 770, 306, 307, 308, 309, 259, 260, 261, 262, 263, 264, 265, 266, 38, 310, 2, 311, 312, 210, 211, 212, 213, 214, 215, 216, 217, 218, 117, 118, 119, 120, 121, 122, 789, 790, 791, 792, 805, 806, 807, 808, 809, 810, 811, 826, 827, 828, 829, 830, 831, 832, 833, 834, 835, 836, 837, 838, 839, 840] (by decide +kernel) (by decide +kernel)
set_option maxRecDepth 20000 in
theorem gL_law_X4_count : GoodIn wsL_law (wsV RL 115 RX4 yX4_count wsX4_count) := goodIn_app (goodIn_of _ (by decide +kernel)) ggL_law_X4_count
set_option maxRecDepth 20000 in
theorem ggL_law_X5_count : GoodIn wsL_law wsX5_count := goodIn_r _ [796, 79, 182, 366, 626, 627, 5, 628, 168, 169, 170, 629, 630, 631, 350, 351, 352, 353, 280, 281, 282, 797, 798, 799, 800, 776, 777, 778, 779, 325, 326, 327, 328, 329, 330, 277, 278, 279, 283, 284, 285, 331, 332, 333, 229, 230, 231, 801, 802, 803, 804, 812, 813, 814, 815, 816, 817, 818, 819, 820, 821, 822, 823, 824, 825] (by decide +kernel) (by decide +kernel)
set_option maxRecDepth 20000 in
theorem gL_law_X5_count : GoodIn wsL_law (wsV RL 118 RX5 yX5_count wsX5_count) := goodIn_app (goodIn_of _ (by decide +kernel)) ggL_law_X5_count
