set_option maxRecDepth 20000 in
theorem ggL_law_X4_undo : GoodIn wsL_law wsX4_undo := goodIn_r _ [554, 19, 15, 555, 556, 557, 18, 558, 50, 95, 96, 97, 98, 48, 49, 99, 100, 101, 14, 102, 32, 34, 103, 104, 105, 106, 35, 36, 37, 38, 805, 806, 807, 808, 809, 810, 811, 832, 833, 834, 826, 827, 828, 829, 830, 831] (by decide +kernel) (by decide +kernel)
set_option maxRecDepth 20000 in
theorem gL_law_X4_undo : GoodIn wsL_law (wsV RL 66 RX4 yX4_undo wsX4_undo) := goodIn_app (goodIn_of _ (by decide +kernel)) ggL_law_X4_undo
set_option maxRecDepth 20000 in
theorem ggL_law_X5_undo : GoodIn wsL_law wsX5_undo := goodIn_r _ [562, 182, 81, 79, 162, 163, 5, 164, 812, 813, 814, 815, 816, 817, 818, 819, 820, 821, 822, 823, 824, 825] (by decide +kernel) (by decide +kernel)
set_option maxRecDepth 20000 in
theorem gL_law_X5_undo : GoodIn wsL_law (wsV RL 69 RX5 yX5_undo wsX5_undo) := goodIn_app (goodIn_of _ (by decide +kernel)) ggL_law_X5_undo
set_option maxRecDepth 20000 in
theorem ggL_law_X4_keep : GoodIn wsL_law wsX4_keep := goodIn_r _ [566, 20, 15, 21, 484, 100, 101, 14, 102, 32, 34, 103, 104, 105, 106, 35, 36, 37, 38, 805, 806, 807, 808, 809, 810, 811, 826, 827, 828, 829, 830, 831] (by decide +kernel) (by decide +kernel)
set_option maxRecDepth 20000 in
theorem gL_law_X4_keep : GoodIn wsL_law (wsV RL 70 RX4 yX4_keep wsX4_keep) := goodIn_app (goodIn_of _ (by decide +kernel)) ggL_law_X4_keep
set_option maxRecDepth 20000 in
theorem ggL_law_X5_keep : GoodIn wsL_law wsX5_keep := goodIn_r _ [570, 79, 82, 571, 162, 163, 5, 164, 812, 813, 814, 815, 816, 817, 818, 819, 820, 821, 822, 823, 824, 825] (by decide +kernel) (by decide +kernel)
set_option maxRecDepth 20000 in
theorem gL_law_X5_keep : GoodIn wsL_law (wsV RL 73 RX5 yX5_keep wsX5_keep) := goodIn_app (goodIn_of _ (by decide +kernel)) ggL_law_X5_keep
set_option maxRecDepth 20000 in
theorem ggL_law_X4_restore : GoodIn wsL_law wsX4_restore := goodIn_r _ [575, 21, 19, 15, 20, 91, 92, 93, 18, 94, 95, 96, 97, 98, 48, 49, 50, 99, 100, 101, 14, 102, 32, 34, 103, 104, 105, 106, 35, 36, 37, 38, 484, 142, 143, 144, 145, 805, 806, 807, 808, 809, 810, 811, 826, 827, 828, 829, 830, 831, 832, 833, 834] (by decide +kernel) (by decide +kernel)
set_option maxRecDepth 20000 in
theorem gL_law_X4_restore : GoodIn wsL_law (wsV RL 74 RX4 yX4_restore wsX4_restore) := goodIn_app (goodIn_of _ (by decide +kernel)) ggL_law_X4_restore
set_option maxRecDepth 20000 in
theorem ggL_law_X5_restore : GoodIn wsL_law wsX5_restore := goodIn_r _ [579, 571, 82, 79, 178, 179, 180, 5, 181, 182, 81, 162, 163, 164, 812, 813, 814, 815, 816, 817, 818, 819, 820, 821, 822, 823, 824, 825] (by decide +kernel) (by decide +kernel)
set_option maxRecDepth 20000 in
theorem gL_law_X5_restore : GoodIn wsL_law (wsV RL 77 RX5 yX5_restore wsX5_restore) := goodIn_app (goodIn_of _ (by decide +kernel)) ggL_law_X5_restore
set_option maxRecDepth 20000 in
theorem ggL_law_X4_column : GoodIn wsL_law wsX4_column := goodIn_r _ [583, 15, 584, 585, 586, 14, 587, 32, 588, 111, 2, 112, 589, 128, 129, 130, 34, 590, 207, 208, 209, 35, 805, 806, 807, 808, 809, 810, 811, 826, 827, 828, 829, 830, 831] (by decide +kernel) (by decide +kernel)
set_option maxRecDepth 20000 in
theorem gL_law_X4_column : GoodIn wsL_law (wsV RL 78 RX4 yX4_column wsX4_column) := goodIn_app (goodIn_of _ (by decide +kernel)) ggL_law_X4_column
set_option maxRecDepth 20000 in
theorem ggL_law_X5_column : GoodIn wsL_law wsX5_column := goodIn_r _ [594, 79, 595, 596, 597, 5, 598, 153, 154, 155, 150, 151, 152, 168, 169, 170, 226, 227, 228, 812, 813, 814, 815, 816, 817, 818, 819, 820, 821, 822, 823, 824, 825] (by decide +kernel) (by decide +kernel)
set_option maxRecDepth 20000 in
theorem gL_law_X5_column : GoodIn wsL_law (wsV RL 81 RX5 yX5_column wsX5_column) := goodIn_app (goodIn_of _ (by decide +kernel)) ggL_law_X5_column
set_option maxRecDepth 20000 in
theorem ggL_law_X4_season : GoodIn wsL_law wsX4_season := goodIn_r _ [602, 15, 584, 585, 586, 14, 587, 32, 603, 604, 605, 606, 127, 128, 129, 130, 34, 607, 608, 609, 610, 611, 612, 613, 614, 615, 616, 617, 36, 37, 618, 619, 620, 621, 805, 806, 807, 808, 809, 810, 811, 826, 827, 828, 829, 830, 831] (by decide +kernel) (by decide +kernel)
set_option maxRecDepth 20000 in
theorem gL_law_X4_season : GoodIn wsL_law (wsV RL 82 RX4 yX4_season wsX4_season) := goodIn_app (goodIn_of _ (by decide +kernel)) ggL_law_X4_season
set_option maxRecDepth 20000 in
theorem ggL_law_X5_season : GoodIn wsL_law wsX5_season := goodIn_r _ [625, 79, 595, 596, 597, 5, 598, 153, 154, 155, 626, 627, 628, 168, 169, 170, 629, 630, 631, 350, 351, 352, 353, 280, 281, 282, 632, 633, 634, 635, 812, 813, 814, 815, 816, 817, 818, 819, 820, 821, 822, 823, 824, 825] (by decide +kernel) (by decide +kernel)
set_option maxRecDepth 20000 in
theorem gL_law_X5_season : GoodIn wsL_law (wsV RL 85 RX5 yX5_season wsX5_season) := goodIn_app (goodIn_of _ (by decide +kernel)) ggL_law_X5_season
set_option maxRecDepth 20000 in
theorem ggL_law_X4_value : GoodIn wsL_law wsX4_value := goodIn_r _ [639, 15, 640, 256, 257, 14, 258, 36, 588, 111, 2, 112, 641, 260, 261, 262, 37, 127, 128, 129, 130, 34, 642, 264, 265, 266, 38, 805, 806, 807, 808, 809, 810, 811, 826, 827, 828, 829, 830, 831] (by decide +kernel) (by decide +kernel)
set_option maxRecDepth 20000 in
theorem gL_law_X4_value : GoodIn wsL_law (wsV RL 86 RX4 yX4_value wsX4_value) := goodIn_app (goodIn_of _ (by decide +kernel)) ggL_law_X4_value
set_option maxRecDepth 20000 in
theorem ggL_law_X5_value : GoodIn wsL_law wsX5_value := goodIn_r _ [646, 79, 274, 275, 5, 276, 153, 154, 155, 150, 151, 152, 277, 278, 279, 280, 281, 282, 168, 169, 170, 283, 284, 285, 812, 813, 814, 815, 816, 817, 818, 819, 820, 821, 822, 823, 824, 825] (by decide +kernel) (by decide +kernel)
set_option maxRecDepth 20000 in
theorem gL_law_X5_value : GoodIn wsL_law (wsV RL 89 RX5 yX5_value wsX5_value) := goodIn_app (goodIn_of _ (by decide +kernel)) ggL_law_X5_value
set_option maxRecDepth 20000 in
theorem ggL_law_X4_read : GoodIn wsL_law wsX4_read := goodIn_r _ [650, 15, 640, 256, 257, 14, 258, 36, 584, 585, 586, 587, 32, 588, 111, 2, 112, 589, 128, 129, 130, 34, 651, 318, 319, 320, 259, 260, 261, 262, 37, 127, 206, 207, 208, 209, 35, 263, 264, 265, 266, 38, 210, 211, 212, 213, 214, 215, 216, 217, 218, 117, 118, 119, 120, 121, 122, 652, 653, 654, 655, 310, 311, 312, 805, 806, 807, 808, 809, 810, 811, 826, 827, 828, 829, 830, 831] (by decide +kernel) (by decide +kernel)
set_option maxRecDepth 20000 in
theorem gL_law_X4_read : GoodIn wsL_law (wsV RL 90 RX4 yX4_read wsX4_read) := goodIn_app (goodIn_of _ (by decide +kernel)) ggL_law_X4_read
